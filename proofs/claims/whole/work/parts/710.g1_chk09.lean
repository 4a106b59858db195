/- g1.chk09 -/
section
set_option maxRecDepth 512
set_option maxRecDepth 100000 in
set_option maxHeartbeats 8000000 in
theorem mj_q19 : mj_cr mj_m19 = true := by decide +kernel
set_option maxRecDepth 100000 in
set_option maxHeartbeats 8000000 in
theorem mj_q50 : mj_cr mj_m50 = true := by decide +kernel
set_option maxRecDepth 100000 in
set_option maxHeartbeats 8000000 in
theorem mj_q64_0 : mj_pc mj_m64 0 40 = true := by decide +kernel
set_option maxRecDepth 100000 in
set_option maxHeartbeats 8000000 in
theorem mj_q64_1 : mj_pc mj_m64 40 40 = true := by decide +kernel
set_option maxRecDepth 100000 in
theorem mj_q64_e : mj_cz mj_m64 ((mj_rw mj_m64).drop 80) 80 = true := by decide +kernel
theorem mj_r64_1 : mj_cz mj_m64 ((mj_rw mj_m64).drop 40) 40 = true := mj_pc_1 (y := mj_m64) (a := 40) (n := 40) mj_q64_1 mj_q64_e
theorem mj_r64_0 : mj_cz mj_m64 ((mj_rw mj_m64).drop 0) 0 = true := mj_pc_1 (y := mj_m64) (a := 0) (n := 40) mj_q64_0 mj_r64_1
theorem mj_q64 : mj_cr mj_m64 = true := mj_pc_0 mj_r64_0
set_option maxRecDepth 100000 in
set_option maxHeartbeats 8000000 in
theorem mj_q67 : mj_cr mj_m67 = true := by decide +kernel
set_option maxRecDepth 100000 in
set_option maxHeartbeats 8000000 in
theorem mj_q71 : mj_cr mj_m71 = true := by decide +kernel
set_option maxRecDepth 100000 in
set_option maxHeartbeats 8000000 in
theorem mj_q85_0 : mj_pc mj_m85 0 40 = true := by decide +kernel
set_option maxRecDepth 100000 in
set_option maxHeartbeats 8000000 in
theorem mj_q85_1 : mj_pc mj_m85 40 40 = true := by decide +kernel
set_option maxRecDepth 100000 in
set_option maxHeartbeats 8000000 in
theorem mj_q85_2 : mj_pc mj_m85 80 40 = true := by decide +kernel
set_option maxRecDepth 100000 in
set_option maxHeartbeats 8000000 in
theorem mj_q85_3 : mj_pc mj_m85 120 40 = true := by decide +kernel
set_option maxRecDepth 100000 in
set_option maxHeartbeats 8000000 in
theorem mj_q85_4 : mj_pc mj_m85 160 40 = true := by decide +kernel
set_option maxRecDepth 100000 in
set_option maxHeartbeats 8000000 in
theorem mj_q85_5 : mj_pc mj_m85 200 40 = true := by decide +kernel
set_option maxRecDepth 100000 in
set_option maxHeartbeats 8000000 in
theorem mj_q85_6 : mj_pc mj_m85 240 40 = true := by decide +kernel
set_option maxRecDepth 100000 in
set_option maxHeartbeats 8000000 in
theorem mj_q85_7 : mj_pc mj_m85 280 40 = true := by decide +kernel
set_option maxRecDepth 100000 in
set_option maxHeartbeats 8000000 in
theorem mj_q85_8 : mj_pc mj_m85 320 40 = true := by decide +kernel
set_option maxRecDepth 100000 in
theorem mj_q85_e : mj_cz mj_m85 ((mj_rw mj_m85).drop 360) 360 = true := by decide +kernel
theorem mj_r85_8 : mj_cz mj_m85 ((mj_rw mj_m85).drop 320) 320 = true := mj_pc_1 (y := mj_m85) (a := 320) (n := 40) mj_q85_8 mj_q85_e
theorem mj_r85_7 : mj_cz mj_m85 ((mj_rw mj_m85).drop 280) 280 = true := mj_pc_1 (y := mj_m85) (a := 280) (n := 40) mj_q85_7 mj_r85_8
theorem mj_r85_6 : mj_cz mj_m85 ((mj_rw mj_m85).drop 240) 240 = true := mj_pc_1 (y := mj_m85) (a := 240) (n := 40) mj_q85_6 mj_r85_7
theorem mj_r85_5 : mj_cz mj_m85 ((mj_rw mj_m85).drop 200) 200 = true := mj_pc_1 (y := mj_m85) (a := 200) (n := 40) mj_q85_5 mj_r85_6
theorem mj_r85_4 : mj_cz mj_m85 ((mj_rw mj_m85).drop 160) 160 = true := mj_pc_1 (y := mj_m85) (a := 160) (n := 40) mj_q85_4 mj_r85_5
theorem mj_r85_3 : mj_cz mj_m85 ((mj_rw mj_m85).drop 120) 120 = true := mj_pc_1 (y := mj_m85) (a := 120) (n := 40) mj_q85_3 mj_r85_4
theorem mj_r85_2 : mj_cz mj_m85 ((mj_rw mj_m85).drop 80) 80 = true := mj_pc_1 (y := mj_m85) (a := 80) (n := 40) mj_q85_2 mj_r85_3
theorem mj_r85_1 : mj_cz mj_m85 ((mj_rw mj_m85).drop 40) 40 = true := mj_pc_1 (y := mj_m85) (a := 40) (n := 40) mj_q85_1 mj_r85_2
theorem mj_r85_0 : mj_cz mj_m85 ((mj_rw mj_m85).drop 0) 0 = true := mj_pc_1 (y := mj_m85) (a := 0) (n := 40) mj_q85_0 mj_r85_1
theorem mj_q85 : mj_cr mj_m85 = true := mj_pc_0 mj_r85_0
set_option maxRecDepth 100000 in
set_option maxHeartbeats 8000000 in
theorem mj_q117_0 : mj_pc mj_m117 0 40 = true := by decide +kernel
set_option maxRecDepth 100000 in
set_option maxHeartbeats 8000000 in
theorem mj_q117_1 : mj_pc mj_m117 40 40 = true := by decide +kernel
set_option maxRecDepth 100000 in
theorem mj_q117_e : mj_cz mj_m117 ((mj_rw mj_m117).drop 80) 80 = true := by decide +kernel
theorem mj_r117_1 : mj_cz mj_m117 ((mj_rw mj_m117).drop 40) 40 = true := mj_pc_1 (y := mj_m117) (a := 40) (n := 40) mj_q117_1 mj_q117_e
theorem mj_r117_0 : mj_cz mj_m117 ((mj_rw mj_m117).drop 0) 0 = true := mj_pc_1 (y := mj_m117) (a := 0) (n := 40) mj_q117_0 mj_r117_1
theorem mj_q117 : mj_cr mj_m117 = true := mj_pc_0 mj_r117_0
set_option maxRecDepth 100000 in
set_option maxHeartbeats 8000000 in
theorem mj_q118 : mj_cr mj_m118 = true := by decide +kernel
set_option maxRecDepth 100000 in
set_option maxHeartbeats 8000000 in
theorem mj_q127_0 : mj_pc mj_m127 0 40 = true := by decide +kernel
set_option maxRecDepth 100000 in
set_option maxHeartbeats 8000000 in
theorem mj_q127_1 : mj_pc mj_m127 40 40 = true := by decide +kernel
set_option maxRecDepth 100000 in
set_option maxHeartbeats 8000000 in
theorem mj_q127_2 : mj_pc mj_m127 80 40 = true := by decide +kernel
set_option maxRecDepth 100000 in
theorem mj_q127_e : mj_cz mj_m127 ((mj_rw mj_m127).drop 120) 120 = true := by decide +kernel
theorem mj_r127_2 : mj_cz mj_m127 ((mj_rw mj_m127).drop 80) 80 = true := mj_pc_1 (y := mj_m127) (a := 80) (n := 40) mj_q127_2 mj_q127_e
theorem mj_r127_1 : mj_cz mj_m127 ((mj_rw mj_m127).drop 40) 40 = true := mj_pc_1 (y := mj_m127) (a := 40) (n := 40) mj_q127_1 mj_r127_2
theorem mj_r127_0 : mj_cz mj_m127 ((mj_rw mj_m127).drop 0) 0 = true := mj_pc_1 (y := mj_m127) (a := 0) (n := 40) mj_q127_0 mj_r127_1
theorem mj_q127 : mj_cr mj_m127 = true := mj_pc_0 mj_r127_0
set_option maxRecDepth 100000 in
set_option maxHeartbeats 8000000 in
theorem mj_q128_0 : mj_pc mj_m128 0 40 = true := by decide +kernel
set_option maxRecDepth 100000 in
set_option maxHeartbeats 8000000 in
theorem mj_q128_1 : mj_pc mj_m128 40 40 = true := by decide +kernel
set_option maxRecDepth 100000 in
set_option maxHeartbeats 8000000 in
theorem mj_q128_2 : mj_pc mj_m128 80 40 = true := by decide +kernel
set_option maxRecDepth 100000 in
set_option maxHeartbeats 8000000 in
theorem mj_q128_3 : mj_pc mj_m128 120 40 = true := by decide +kernel
set_option maxRecDepth 100000 in
set_option maxHeartbeats 8000000 in
theorem mj_q128_4 : mj_pc mj_m128 160 40 = true := by decide +kernel
set_option maxRecDepth 100000 in
theorem mj_q128_e : mj_cz mj_m128 ((mj_rw mj_m128).drop 200) 200 = true := by decide +kernel
theorem mj_r128_4 : mj_cz mj_m128 ((mj_rw mj_m128).drop 160) 160 = true := mj_pc_1 (y := mj_m128) (a := 160) (n := 40) mj_q128_4 mj_q128_e
theorem mj_r128_3 : mj_cz mj_m128 ((mj_rw mj_m128).drop 120) 120 = true := mj_pc_1 (y := mj_m128) (a := 120) (n := 40) mj_q128_3 mj_r128_4
theorem mj_r128_2 : mj_cz mj_m128 ((mj_rw mj_m128).drop 80) 80 = true := mj_pc_1 (y := mj_m128) (a := 80) (n := 40) mj_q128_2 mj_r128_3
theorem mj_r128_1 : mj_cz mj_m128 ((mj_rw mj_m128).drop 40) 40 = true := mj_pc_1 (y := mj_m128) (a := 40) (n := 40) mj_q128_1 mj_r128_2
theorem mj_r128_0 : mj_cz mj_m128 ((mj_rw mj_m128).drop 0) 0 = true := mj_pc_1 (y := mj_m128) (a := 0) (n := 40) mj_q128_0 mj_r128_1
theorem mj_q128 : mj_cr mj_m128 = true := mj_pc_0 mj_r128_0
set_option maxRecDepth 100000 in
set_option maxHeartbeats 8000000 in
theorem mj_q179_0 : mj_pc mj_m179 0 40 = true := by decide +kernel
set_option maxRecDepth 100000 in
set_option maxHeartbeats 8000000 in
theorem mj_q179_1 : mj_pc mj_m179 40 40 = true := by decide +kernel
set_option maxRecDepth 100000 in
theorem mj_q179_e : mj_cz mj_m179 ((mj_rw mj_m179).drop 80) 80 = true := by decide +kernel
theorem mj_r179_1 : mj_cz mj_m179 ((mj_rw mj_m179).drop 40) 40 = true := mj_pc_1 (y := mj_m179) (a := 40) (n := 40) mj_q179_1 mj_q179_e
theorem mj_r179_0 : mj_cz mj_m179 ((mj_rw mj_m179).drop 0) 0 = true := mj_pc_1 (y := mj_m179) (a := 0) (n := 40) mj_q179_0 mj_r179_1
theorem mj_q179 : mj_cr mj_m179 = true := mj_pc_0 mj_r179_0
set_option maxRecDepth 100000 in
set_option maxHeartbeats 8000000 in
theorem mj_q242 : mj_cr mj_m242 = true := by decide +kernel
set_option maxRecDepth 100000 in
set_option maxHeartbeats 8000000 in
theorem mj_q288_0 : mj_pc mj_m288 0 40 = true := by decide +kernel
set_option maxRecDepth 100000 in
set_option maxHeartbeats 8000000 in
theorem mj_q288_1 : mj_pc mj_m288 40 40 = true := by decide +kernel
set_option maxRecDepth 100000 in
theorem mj_q288_e : mj_cz mj_m288 ((mj_rw mj_m288).drop 80) 80 = true := by decide +kernel
theorem mj_r288_1 : mj_cz mj_m288 ((mj_rw mj_m288).drop 40) 40 = true := mj_pc_1 (y := mj_m288) (a := 40) (n := 40) mj_q288_1 mj_q288_e
theorem mj_r288_0 : mj_cz mj_m288 ((mj_rw mj_m288).drop 0) 0 = true := mj_pc_1 (y := mj_m288) (a := 0) (n := 40) mj_q288_0 mj_r288_1
theorem mj_q288 : mj_cr mj_m288 = true := mj_pc_0 mj_r288_0
set_option maxRecDepth 100000 in
set_option maxHeartbeats 8000000 in
theorem mj_q339_0 : mj_pc mj_m339 0 40 = true := by decide +kernel
set_option maxRecDepth 100000 in
set_option maxHeartbeats 8000000 in
theorem mj_q339_1 : mj_pc mj_m339 40 40 = true := by decide +kernel
set_option maxRecDepth 100000 in
set_option maxHeartbeats 8000000 in
theorem mj_q339_2 : mj_pc mj_m339 80 40 = true := by decide +kernel
set_option maxRecDepth 100000 in
theorem mj_q339_e : mj_cz mj_m339 ((mj_rw mj_m339).drop 120) 120 = true := by decide +kernel
theorem mj_r339_2 : mj_cz mj_m339 ((mj_rw mj_m339).drop 80) 80 = true := mj_pc_1 (y := mj_m339) (a := 80) (n := 40) mj_q339_2 mj_q339_e
theorem mj_r339_1 : mj_cz mj_m339 ((mj_rw mj_m339).drop 40) 40 = true := mj_pc_1 (y := mj_m339) (a := 40) (n := 40) mj_q339_1 mj_r339_2
theorem mj_r339_0 : mj_cz mj_m339 ((mj_rw mj_m339).drop 0) 0 = true := mj_pc_1 (y := mj_m339) (a := 0) (n := 40) mj_q339_0 mj_r339_1
theorem mj_q339 : mj_cr mj_m339 = true := mj_pc_0 mj_r339_0
set_option maxRecDepth 100000 in
set_option maxHeartbeats 8000000 in
theorem mj_q349 : mj_cr mj_m349 = true := by decide +kernel
set_option maxRecDepth 100000 in
set_option maxHeartbeats 8000000 in
theorem mj_q360 : mj_cr mj_m360 = true := by decide +kernel
set_option maxRecDepth 100000 in
set_option maxHeartbeats 8000000 in
theorem mj_q368_0 : mj_pc mj_m368 0 40 = true := by decide +kernel
set_option maxRecDepth 100000 in
set_option maxHeartbeats 8000000 in
theorem mj_q368_1 : mj_pc mj_m368 40 40 = true := by decide +kernel
set_option maxRecDepth 100000 in
set_option maxHeartbeats 8000000 in
theorem mj_q368_2 : mj_pc mj_m368 80 40 = true := by decide +kernel
set_option maxRecDepth 100000 in
set_option maxHeartbeats 8000000 in
theorem mj_q368_3 : mj_pc mj_m368 120 40 = true := by decide +kernel
set_option maxRecDepth 100000 in
theorem mj_q368_e : mj_cz mj_m368 ((mj_rw mj_m368).drop 160) 160 = true := by decide +kernel
theorem mj_r368_3 : mj_cz mj_m368 ((mj_rw mj_m368).drop 120) 120 = true := mj_pc_1 (y := mj_m368) (a := 120) (n := 40) mj_q368_3 mj_q368_e
theorem mj_r368_2 : mj_cz mj_m368 ((mj_rw mj_m368).drop 80) 80 = true := mj_pc_1 (y := mj_m368) (a := 80) (n := 40) mj_q368_2 mj_r368_3
theorem mj_r368_1 : mj_cz mj_m368 ((mj_rw mj_m368).drop 40) 40 = true := mj_pc_1 (y := mj_m368) (a := 40) (n := 40) mj_q368_1 mj_r368_2
theorem mj_r368_0 : mj_cz mj_m368 ((mj_rw mj_m368).drop 0) 0 = true := mj_pc_1 (y := mj_m368) (a := 0) (n := 40) mj_q368_0 mj_r368_1
theorem mj_q368 : mj_cr mj_m368 = true := mj_pc_0 mj_r368_0
set_option maxRecDepth 100000 in
set_option maxHeartbeats 8000000 in
theorem mj_q375_0 : mj_pc mj_m375 0 40 = true := by decide +kernel
set_option maxRecDepth 100000 in
set_option maxHeartbeats 8000000 in
theorem mj_q375_1 : mj_pc mj_m375 40 40 = true := by decide +kernel
set_option maxRecDepth 100000 in
theorem mj_q375_e : mj_cz mj_m375 ((mj_rw mj_m375).drop 80) 80 = true := by decide +kernel
theorem mj_r375_1 : mj_cz mj_m375 ((mj_rw mj_m375).drop 40) 40 = true := mj_pc_1 (y := mj_m375) (a := 40) (n := 40) mj_q375_1 mj_q375_e
theorem mj_r375_0 : mj_cz mj_m375 ((mj_rw mj_m375).drop 0) 0 = true := mj_pc_1 (y := mj_m375) (a := 0) (n := 40) mj_q375_0 mj_r375_1
theorem mj_q375 : mj_cr mj_m375 = true := mj_pc_0 mj_r375_0
end
