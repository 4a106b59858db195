/- g1.chk16 -/
section
set_option maxRecDepth 512
set_option maxRecDepth 100000 in
set_option maxHeartbeats 8000000 in
theorem mj_q21 : mj_cr mj_m21 = true := by decide +kernel
set_option maxRecDepth 100000 in
set_option maxHeartbeats 8000000 in
theorem mj_q45_0 : mj_pc mj_m45 0 40 = true := by decide +kernel
set_option maxRecDepth 100000 in
set_option maxHeartbeats 8000000 in
theorem mj_q45_1 : mj_pc mj_m45 40 40 = true := by decide +kernel
set_option maxRecDepth 100000 in
theorem mj_q45_e : mj_cz mj_m45 ((mj_rw mj_m45).drop 80) 80 = true := by decide +kernel
theorem mj_r45_1 : mj_cz mj_m45 ((mj_rw mj_m45).drop 40) 40 = true := mj_pc_1 (y := mj_m45) (a := 40) (n := 40) mj_q45_1 mj_q45_e
theorem mj_r45_0 : mj_cz mj_m45 ((mj_rw mj_m45).drop 0) 0 = true := mj_pc_1 (y := mj_m45) (a := 0) (n := 40) mj_q45_0 mj_r45_1
theorem mj_q45 : mj_cr mj_m45 = true := mj_pc_0 mj_r45_0
set_option maxRecDepth 100000 in
set_option maxHeartbeats 8000000 in
theorem mj_q53 : mj_cr mj_m53 = true := by decide +kernel
set_option maxRecDepth 100000 in
set_option maxHeartbeats 8000000 in
theorem mj_q58_0 : mj_pc mj_m58 0 40 = true := by decide +kernel
set_option maxRecDepth 100000 in
set_option maxHeartbeats 8000000 in
theorem mj_q58_1 : mj_pc mj_m58 40 40 = true := by decide +kernel
set_option maxRecDepth 100000 in
set_option maxHeartbeats 8000000 in
theorem mj_q58_2 : mj_pc mj_m58 80 40 = true := by decide +kernel
set_option maxRecDepth 100000 in
set_option maxHeartbeats 8000000 in
theorem mj_q58_3 : mj_pc mj_m58 120 40 = true := by decide +kernel
set_option maxRecDepth 100000 in
set_option maxHeartbeats 8000000 in
theorem mj_q58_4 : mj_pc mj_m58 160 40 = true := by decide +kernel
set_option maxRecDepth 100000 in
theorem mj_q58_e : mj_cz mj_m58 ((mj_rw mj_m58).drop 200) 200 = true := by decide +kernel
theorem mj_r58_4 : mj_cz mj_m58 ((mj_rw mj_m58).drop 160) 160 = true := mj_pc_1 (y := mj_m58) (a := 160) (n := 40) mj_q58_4 mj_q58_e
theorem mj_r58_3 : mj_cz mj_m58 ((mj_rw mj_m58).drop 120) 120 = true := mj_pc_1 (y := mj_m58) (a := 120) (n := 40) mj_q58_3 mj_r58_4
theorem mj_r58_2 : mj_cz mj_m58 ((mj_rw mj_m58).drop 80) 80 = true := mj_pc_1 (y := mj_m58) (a := 80) (n := 40) mj_q58_2 mj_r58_3
theorem mj_r58_1 : mj_cz mj_m58 ((mj_rw mj_m58).drop 40) 40 = true := mj_pc_1 (y := mj_m58) (a := 40) (n := 40) mj_q58_1 mj_r58_2
theorem mj_r58_0 : mj_cz mj_m58 ((mj_rw mj_m58).drop 0) 0 = true := mj_pc_1 (y := mj_m58) (a := 0) (n := 40) mj_q58_0 mj_r58_1
theorem mj_q58 : mj_cr mj_m58 = true := mj_pc_0 mj_r58_0
set_option maxRecDepth 100000 in
set_option maxHeartbeats 8000000 in
theorem mj_q104 : mj_cr mj_m104 = true := by decide +kernel
set_option maxRecDepth 100000 in
set_option maxHeartbeats 8000000 in
theorem mj_q152_0 : mj_pc mj_m152 0 40 = true := by decide +kernel
set_option maxRecDepth 100000 in
set_option maxHeartbeats 8000000 in
theorem mj_q152_1 : mj_pc mj_m152 40 40 = true := by decide +kernel
set_option maxRecDepth 100000 in
set_option maxHeartbeats 8000000 in
theorem mj_q152_2 : mj_pc mj_m152 80 40 = true := by decide +kernel
set_option maxRecDepth 100000 in
set_option maxHeartbeats 8000000 in
theorem mj_q152_3 : mj_pc mj_m152 120 40 = true := by decide +kernel
set_option maxRecDepth 100000 in
theorem mj_q152_e : mj_cz mj_m152 ((mj_rw mj_m152).drop 160) 160 = true := by decide +kernel
theorem mj_r152_3 : mj_cz mj_m152 ((mj_rw mj_m152).drop 120) 120 = true := mj_pc_1 (y := mj_m152) (a := 120) (n := 40) mj_q152_3 mj_q152_e
theorem mj_r152_2 : mj_cz mj_m152 ((mj_rw mj_m152).drop 80) 80 = true := mj_pc_1 (y := mj_m152) (a := 80) (n := 40) mj_q152_2 mj_r152_3
theorem mj_r152_1 : mj_cz mj_m152 ((mj_rw mj_m152).drop 40) 40 = true := mj_pc_1 (y := mj_m152) (a := 40) (n := 40) mj_q152_1 mj_r152_2
theorem mj_r152_0 : mj_cz mj_m152 ((mj_rw mj_m152).drop 0) 0 = true := mj_pc_1 (y := mj_m152) (a := 0) (n := 40) mj_q152_0 mj_r152_1
theorem mj_q152 : mj_cr mj_m152 = true := mj_pc_0 mj_r152_0
set_option maxRecDepth 100000 in
set_option maxHeartbeats 8000000 in
theorem mj_q159_0 : mj_pc mj_m159 0 40 = true := by decide +kernel
set_option maxRecDepth 100000 in
set_option maxHeartbeats 8000000 in
theorem mj_q159_1 : mj_pc mj_m159 40 40 = true := by decide +kernel
set_option maxRecDepth 100000 in
theorem mj_q159_e : mj_cz mj_m159 ((mj_rw mj_m159).drop 80) 80 = true := by decide +kernel
theorem mj_r159_1 : mj_cz mj_m159 ((mj_rw mj_m159).drop 40) 40 = true := mj_pc_1 (y := mj_m159) (a := 40) (n := 40) mj_q159_1 mj_q159_e
theorem mj_r159_0 : mj_cz mj_m159 ((mj_rw mj_m159).drop 0) 0 = true := mj_pc_1 (y := mj_m159) (a := 0) (n := 40) mj_q159_0 mj_r159_1
theorem mj_q159 : mj_cr mj_m159 = true := mj_pc_0 mj_r159_0
set_option maxRecDepth 100000 in
set_option maxHeartbeats 8000000 in
theorem mj_q176 : mj_cr mj_m176 = true := by decide +kernel
set_option maxRecDepth 100000 in
set_option maxHeartbeats 8000000 in
theorem mj_q191 : mj_cr mj_m191 = true := by decide +kernel
set_option maxRecDepth 100000 in
set_option maxHeartbeats 8000000 in
theorem mj_q218_0 : mj_pc mj_m218 0 40 = true := by decide +kernel
set_option maxRecDepth 100000 in
set_option maxHeartbeats 8000000 in
theorem mj_q218_1 : mj_pc mj_m218 40 40 = true := by decide +kernel
set_option maxRecDepth 100000 in
set_option maxHeartbeats 8000000 in
theorem mj_q218_2 : mj_pc mj_m218 80 40 = true := by decide +kernel
set_option maxRecDepth 100000 in
theorem mj_q218_e : mj_cz mj_m218 ((mj_rw mj_m218).drop 120) 120 = true := by decide +kernel
theorem mj_r218_2 : mj_cz mj_m218 ((mj_rw mj_m218).drop 80) 80 = true := mj_pc_1 (y := mj_m218) (a := 80) (n := 40) mj_q218_2 mj_q218_e
theorem mj_r218_1 : mj_cz mj_m218 ((mj_rw mj_m218).drop 40) 40 = true := mj_pc_1 (y := mj_m218) (a := 40) (n := 40) mj_q218_1 mj_r218_2
theorem mj_r218_0 : mj_cz mj_m218 ((mj_rw mj_m218).drop 0) 0 = true := mj_pc_1 (y := mj_m218) (a := 0) (n := 40) mj_q218_0 mj_r218_1
theorem mj_q218 : mj_cr mj_m218 = true := mj_pc_0 mj_r218_0
set_option maxRecDepth 100000 in
set_option maxHeartbeats 8000000 in
theorem mj_q248 : mj_cr mj_m248 = true := by decide +kernel
set_option maxRecDepth 100000 in
set_option maxHeartbeats 8000000 in
theorem mj_q273 : mj_cr mj_m273 = true := by decide +kernel
set_option maxRecDepth 100000 in
set_option maxHeartbeats 8000000 in
theorem mj_q284_0 : mj_pc mj_m284 0 40 = true := by decide +kernel
set_option maxRecDepth 100000 in
set_option maxHeartbeats 8000000 in
theorem mj_q284_1 : mj_pc mj_m284 40 40 = true := by decide +kernel
set_option maxRecDepth 100000 in
theorem mj_q284_e : mj_cz mj_m284 ((mj_rw mj_m284).drop 80) 80 = true := by decide +kernel
theorem mj_r284_1 : mj_cz mj_m284 ((mj_rw mj_m284).drop 40) 40 = true := mj_pc_1 (y := mj_m284) (a := 40) (n := 40) mj_q284_1 mj_q284_e
theorem mj_r284_0 : mj_cz mj_m284 ((mj_rw mj_m284).drop 0) 0 = true := mj_pc_1 (y := mj_m284) (a := 0) (n := 40) mj_q284_0 mj_r284_1
theorem mj_q284 : mj_cr mj_m284 = true := mj_pc_0 mj_r284_0
set_option maxRecDepth 100000 in
set_option maxHeartbeats 8000000 in
theorem mj_q287_0 : mj_pc mj_m287 0 40 = true := by decide +kernel
set_option maxRecDepth 100000 in
set_option maxHeartbeats 8000000 in
theorem mj_q287_1 : mj_pc mj_m287 40 40 = true := by decide +kernel
set_option maxRecDepth 100000 in
set_option maxHeartbeats 8000000 in
theorem mj_q287_2 : mj_pc mj_m287 80 40 = true := by decide +kernel
set_option maxRecDepth 100000 in
set_option maxHeartbeats 8000000 in
theorem mj_q287_3 : mj_pc mj_m287 120 40 = true := by decide +kernel
set_option maxRecDepth 100000 in
set_option maxHeartbeats 8000000 in
theorem mj_q287_4 : mj_pc mj_m287 160 40 = true := by decide +kernel
set_option maxRecDepth 100000 in
set_option maxHeartbeats 8000000 in
theorem mj_q287_5 : mj_pc mj_m287 200 40 = true := by decide +kernel
set_option maxRecDepth 100000 in
set_option maxHeartbeats 8000000 in
theorem mj_q287_6 : mj_pc mj_m287 240 40 = true := by decide +kernel
set_option maxRecDepth 100000 in
set_option maxHeartbeats 8000000 in
theorem mj_q287_7 : mj_pc mj_m287 280 40 = true := by decide +kernel
set_option maxRecDepth 100000 in
theorem mj_q287_e : mj_cz mj_m287 ((mj_rw mj_m287).drop 320) 320 = true := by decide +kernel
theorem mj_r287_7 : mj_cz mj_m287 ((mj_rw mj_m287).drop 280) 280 = true := mj_pc_1 (y := mj_m287) (a := 280) (n := 40) mj_q287_7 mj_q287_e
theorem mj_r287_6 : mj_cz mj_m287 ((mj_rw mj_m287).drop 240) 240 = true := mj_pc_1 (y := mj_m287) (a := 240) (n := 40) mj_q287_6 mj_r287_7
theorem mj_r287_5 : mj_cz mj_m287 ((mj_rw mj_m287).drop 200) 200 = true := mj_pc_1 (y := mj_m287) (a := 200) (n := 40) mj_q287_5 mj_r287_6
theorem mj_r287_4 : mj_cz mj_m287 ((mj_rw mj_m287).drop 160) 160 = true := mj_pc_1 (y := mj_m287) (a := 160) (n := 40) mj_q287_4 mj_r287_5
theorem mj_r287_3 : mj_cz mj_m287 ((mj_rw mj_m287).drop 120) 120 = true := mj_pc_1 (y := mj_m287) (a := 120) (n := 40) mj_q287_3 mj_r287_4
theorem mj_r287_2 : mj_cz mj_m287 ((mj_rw mj_m287).drop 80) 80 = true := mj_pc_1 (y := mj_m287) (a := 80) (n := 40) mj_q287_2 mj_r287_3
theorem mj_r287_1 : mj_cz mj_m287 ((mj_rw mj_m287).drop 40) 40 = true := mj_pc_1 (y := mj_m287) (a := 40) (n := 40) mj_q287_1 mj_r287_2
theorem mj_r287_0 : mj_cz mj_m287 ((mj_rw mj_m287).drop 0) 0 = true := mj_pc_1 (y := mj_m287) (a := 0) (n := 40) mj_q287_0 mj_r287_1
theorem mj_q287 : mj_cr mj_m287 = true := mj_pc_0 mj_r287_0
set_option maxRecDepth 100000 in
set_option maxHeartbeats 8000000 in
theorem mj_q338_0 : mj_pc mj_m338 0 40 = true := by decide +kernel
set_option maxRecDepth 100000 in
set_option maxHeartbeats 8000000 in
theorem mj_q338_1 : mj_pc mj_m338 40 40 = true := by decide +kernel
set_option maxRecDepth 100000 in
set_option maxHeartbeats 8000000 in
theorem mj_q338_2 : mj_pc mj_m338 80 40 = true := by decide +kernel
set_option maxRecDepth 100000 in
set_option maxHeartbeats 8000000 in
theorem mj_q338_3 : mj_pc mj_m338 120 40 = true := by decide +kernel
set_option maxRecDepth 100000 in
theorem mj_q338_e : mj_cz mj_m338 ((mj_rw mj_m338).drop 160) 160 = true := by decide +kernel
theorem mj_r338_3 : mj_cz mj_m338 ((mj_rw mj_m338).drop 120) 120 = true := mj_pc_1 (y := mj_m338) (a := 120) (n := 40) mj_q338_3 mj_q338_e
theorem mj_r338_2 : mj_cz mj_m338 ((mj_rw mj_m338).drop 80) 80 = true := mj_pc_1 (y := mj_m338) (a := 80) (n := 40) mj_q338_2 mj_r338_3
theorem mj_r338_1 : mj_cz mj_m338 ((mj_rw mj_m338).drop 40) 40 = true := mj_pc_1 (y := mj_m338) (a := 40) (n := 40) mj_q338_1 mj_r338_2
theorem mj_r338_0 : mj_cz mj_m338 ((mj_rw mj_m338).drop 0) 0 = true := mj_pc_1 (y := mj_m338) (a := 0) (n := 40) mj_q338_0 mj_r338_1
theorem mj_q338 : mj_cr mj_m338 = true := mj_pc_0 mj_r338_0
set_option maxRecDepth 100000 in
set_option maxHeartbeats 8000000 in
theorem mj_q354_0 : mj_pc mj_m354 0 40 = true := by decide +kernel
set_option maxRecDepth 100000 in
set_option maxHeartbeats 8000000 in
theorem mj_q354_1 : mj_pc mj_m354 40 40 = true := by decide +kernel
set_option maxRecDepth 100000 in
set_option maxHeartbeats 8000000 in
theorem mj_q354_2 : mj_pc mj_m354 80 40 = true := by decide +kernel
set_option maxRecDepth 100000 in
theorem mj_q354_e : mj_cz mj_m354 ((mj_rw mj_m354).drop 120) 120 = true := by decide +kernel
theorem mj_r354_2 : mj_cz mj_m354 ((mj_rw mj_m354).drop 80) 80 = true := mj_pc_1 (y := mj_m354) (a := 80) (n := 40) mj_q354_2 mj_q354_e
theorem mj_r354_1 : mj_cz mj_m354 ((mj_rw mj_m354).drop 40) 40 = true := mj_pc_1 (y := mj_m354) (a := 40) (n := 40) mj_q354_1 mj_r354_2
theorem mj_r354_0 : mj_cz mj_m354 ((mj_rw mj_m354).drop 0) 0 = true := mj_pc_1 (y := mj_m354) (a := 0) (n := 40) mj_q354_0 mj_r354_1
theorem mj_q354 : mj_cr mj_m354 = true := mj_pc_0 mj_r354_0
set_option maxRecDepth 100000 in
set_option maxHeartbeats 8000000 in
theorem mj_q357 : mj_cr mj_m357 = true := by decide +kernel
set_option maxRecDepth 100000 in
set_option maxHeartbeats 8000000 in
theorem mj_q370_0 : mj_pc mj_m370 0 40 = true := by decide +kernel
set_option maxRecDepth 100000 in
set_option maxHeartbeats 8000000 in
theorem mj_q370_1 : mj_pc mj_m370 40 40 = true := by decide +kernel
set_option maxRecDepth 100000 in
theorem mj_q370_e : mj_cz mj_m370 ((mj_rw mj_m370).drop 80) 80 = true := by decide +kernel
theorem mj_r370_1 : mj_cz mj_m370 ((mj_rw mj_m370).drop 40) 40 = true := mj_pc_1 (y := mj_m370) (a := 40) (n := 40) mj_q370_1 mj_q370_e
theorem mj_r370_0 : mj_cz mj_m370 ((mj_rw mj_m370).drop 0) 0 = true := mj_pc_1 (y := mj_m370) (a := 0) (n := 40) mj_q370_0 mj_r370_1
theorem mj_q370 : mj_cr mj_m370 = true := mj_pc_0 mj_r370_0
end
