/- g1.chk07 -/
section
set_option maxRecDepth 512
set_option maxRecDepth 100000 in
set_option maxHeartbeats 8000000 in
theorem mj_q23_0 : mj_pc mj_m23 0 40 = true := by decide +kernel
set_option maxRecDepth 100000 in
set_option maxHeartbeats 8000000 in
theorem mj_q23_1 : mj_pc mj_m23 40 40 = true := by decide +kernel
set_option maxRecDepth 100000 in
theorem mj_q23_e : mj_cz mj_m23 ((mj_rw mj_m23).drop 80) 80 = true := by decide +kernel
theorem mj_r23_1 : mj_cz mj_m23 ((mj_rw mj_m23).drop 40) 40 = true := mj_pc_1 (y := mj_m23) (a := 40) (n := 40) mj_q23_1 mj_q23_e
theorem mj_r23_0 : mj_cz mj_m23 ((mj_rw mj_m23).drop 0) 0 = true := mj_pc_1 (y := mj_m23) (a := 0) (n := 40) mj_q23_0 mj_r23_1
theorem mj_q23 : mj_cr mj_m23 = true := mj_pc_0 mj_r23_0
set_option maxRecDepth 100000 in
set_option maxHeartbeats 8000000 in
theorem mj_q28 : mj_cr mj_m28 = true := by decide +kernel
set_option maxRecDepth 100000 in
set_option maxHeartbeats 8000000 in
theorem mj_q30 : mj_cr mj_m30 = true := by decide +kernel
set_option maxRecDepth 100000 in
set_option maxHeartbeats 8000000 in
theorem mj_q66 : mj_cr mj_m66 = true := by decide +kernel
set_option maxRecDepth 100000 in
set_option maxHeartbeats 8000000 in
theorem mj_q108 : mj_cr mj_m108 = true := by decide +kernel
set_option maxRecDepth 100000 in
set_option maxHeartbeats 8000000 in
theorem mj_q124_0 : mj_pc mj_m124 0 40 = true := by decide +kernel
set_option maxRecDepth 100000 in
set_option maxHeartbeats 8000000 in
theorem mj_q124_1 : mj_pc mj_m124 40 40 = true := by decide +kernel
set_option maxRecDepth 100000 in
set_option maxHeartbeats 8000000 in
theorem mj_q124_2 : mj_pc mj_m124 80 40 = true := by decide +kernel
set_option maxRecDepth 100000 in
theorem mj_q124_e : mj_cz mj_m124 ((mj_rw mj_m124).drop 120) 120 = true := by decide +kernel
theorem mj_r124_2 : mj_cz mj_m124 ((mj_rw mj_m124).drop 80) 80 = true := mj_pc_1 (y := mj_m124) (a := 80) (n := 40) mj_q124_2 mj_q124_e
theorem mj_r124_1 : mj_cz mj_m124 ((mj_rw mj_m124).drop 40) 40 = true := mj_pc_1 (y := mj_m124) (a := 40) (n := 40) mj_q124_1 mj_r124_2
theorem mj_r124_0 : mj_cz mj_m124 ((mj_rw mj_m124).drop 0) 0 = true := mj_pc_1 (y := mj_m124) (a := 0) (n := 40) mj_q124_0 mj_r124_1
theorem mj_q124 : mj_cr mj_m124 = true := mj_pc_0 mj_r124_0
set_option maxRecDepth 100000 in
set_option maxHeartbeats 8000000 in
theorem mj_q125_0 : mj_pc mj_m125 0 40 = true := by decide +kernel
set_option maxRecDepth 100000 in
set_option maxHeartbeats 8000000 in
theorem mj_q125_1 : mj_pc mj_m125 40 40 = true := by decide +kernel
set_option maxRecDepth 100000 in
set_option maxHeartbeats 8000000 in
theorem mj_q125_2 : mj_pc mj_m125 80 40 = true := by decide +kernel
set_option maxRecDepth 100000 in
theorem mj_q125_e : mj_cz mj_m125 ((mj_rw mj_m125).drop 120) 120 = true := by decide +kernel
theorem mj_r125_2 : mj_cz mj_m125 ((mj_rw mj_m125).drop 80) 80 = true := mj_pc_1 (y := mj_m125) (a := 80) (n := 40) mj_q125_2 mj_q125_e
theorem mj_r125_1 : mj_cz mj_m125 ((mj_rw mj_m125).drop 40) 40 = true := mj_pc_1 (y := mj_m125) (a := 40) (n := 40) mj_q125_1 mj_r125_2
theorem mj_r125_0 : mj_cz mj_m125 ((mj_rw mj_m125).drop 0) 0 = true := mj_pc_1 (y := mj_m125) (a := 0) (n := 40) mj_q125_0 mj_r125_1
theorem mj_q125 : mj_cr mj_m125 = true := mj_pc_0 mj_r125_0
set_option maxRecDepth 100000 in
set_option maxHeartbeats 8000000 in
theorem mj_q166 : mj_cr mj_m166 = true := by decide +kernel
set_option maxRecDepth 100000 in
set_option maxHeartbeats 8000000 in
theorem mj_q197 : mj_cr mj_m197 = true := by decide +kernel
set_option maxRecDepth 100000 in
set_option maxHeartbeats 8000000 in
theorem mj_q225 : mj_cr mj_m225 = true := by decide +kernel
set_option maxRecDepth 100000 in
set_option maxHeartbeats 8000000 in
theorem mj_q240_0 : mj_pc mj_m240 0 40 = true := by decide +kernel
set_option maxRecDepth 100000 in
set_option maxHeartbeats 8000000 in
theorem mj_q240_1 : mj_pc mj_m240 40 40 = true := by decide +kernel
set_option maxRecDepth 100000 in
theorem mj_q240_e : mj_cz mj_m240 ((mj_rw mj_m240).drop 80) 80 = true := by decide +kernel
theorem mj_r240_1 : mj_cz mj_m240 ((mj_rw mj_m240).drop 40) 40 = true := mj_pc_1 (y := mj_m240) (a := 40) (n := 40) mj_q240_1 mj_q240_e
theorem mj_r240_0 : mj_cz mj_m240 ((mj_rw mj_m240).drop 0) 0 = true := mj_pc_1 (y := mj_m240) (a := 0) (n := 40) mj_q240_0 mj_r240_1
theorem mj_q240 : mj_cr mj_m240 = true := mj_pc_0 mj_r240_0
set_option maxRecDepth 100000 in
set_option maxHeartbeats 8000000 in
theorem mj_q268_0 : mj_pc mj_m268 0 40 = true := by decide +kernel
set_option maxRecDepth 100000 in
set_option maxHeartbeats 8000000 in
theorem mj_q268_1 : mj_pc mj_m268 40 40 = true := by decide +kernel
set_option maxRecDepth 100000 in
theorem mj_q268_e : mj_cz mj_m268 ((mj_rw mj_m268).drop 80) 80 = true := by decide +kernel
theorem mj_r268_1 : mj_cz mj_m268 ((mj_rw mj_m268).drop 40) 40 = true := mj_pc_1 (y := mj_m268) (a := 40) (n := 40) mj_q268_1 mj_q268_e
theorem mj_r268_0 : mj_cz mj_m268 ((mj_rw mj_m268).drop 0) 0 = true := mj_pc_1 (y := mj_m268) (a := 0) (n := 40) mj_q268_0 mj_r268_1
theorem mj_q268 : mj_cr mj_m268 = true := mj_pc_0 mj_r268_0
set_option maxRecDepth 100000 in
set_option maxHeartbeats 8000000 in
theorem mj_q278_0 : mj_pc mj_m278 0 40 = true := by decide +kernel
set_option maxRecDepth 100000 in
set_option maxHeartbeats 8000000 in
theorem mj_q278_1 : mj_pc mj_m278 40 40 = true := by decide +kernel
set_option maxRecDepth 100000 in
set_option maxHeartbeats 8000000 in
theorem mj_q278_2 : mj_pc mj_m278 80 40 = true := by decide +kernel
set_option maxRecDepth 100000 in
set_option maxHeartbeats 8000000 in
theorem mj_q278_3 : mj_pc mj_m278 120 40 = true := by decide +kernel
set_option maxRecDepth 100000 in
theorem mj_q278_e : mj_cz mj_m278 ((mj_rw mj_m278).drop 160) 160 = true := by decide +kernel
theorem mj_r278_3 : mj_cz mj_m278 ((mj_rw mj_m278).drop 120) 120 = true := mj_pc_1 (y := mj_m278) (a := 120) (n := 40) mj_q278_3 mj_q278_e
theorem mj_r278_2 : mj_cz mj_m278 ((mj_rw mj_m278).drop 80) 80 = true := mj_pc_1 (y := mj_m278) (a := 80) (n := 40) mj_q278_2 mj_r278_3
theorem mj_r278_1 : mj_cz mj_m278 ((mj_rw mj_m278).drop 40) 40 = true := mj_pc_1 (y := mj_m278) (a := 40) (n := 40) mj_q278_1 mj_r278_2
theorem mj_r278_0 : mj_cz mj_m278 ((mj_rw mj_m278).drop 0) 0 = true := mj_pc_1 (y := mj_m278) (a := 0) (n := 40) mj_q278_0 mj_r278_1
theorem mj_q278 : mj_cr mj_m278 = true := mj_pc_0 mj_r278_0
set_option maxRecDepth 100000 in
set_option maxHeartbeats 8000000 in
theorem mj_q281_0 : mj_pc mj_m281 0 40 = true := by decide +kernel
set_option maxRecDepth 100000 in
set_option maxHeartbeats 8000000 in
theorem mj_q281_1 : mj_pc mj_m281 40 40 = true := by decide +kernel
set_option maxRecDepth 100000 in
theorem mj_q281_e : mj_cz mj_m281 ((mj_rw mj_m281).drop 80) 80 = true := by decide +kernel
theorem mj_r281_1 : mj_cz mj_m281 ((mj_rw mj_m281).drop 40) 40 = true := mj_pc_1 (y := mj_m281) (a := 40) (n := 40) mj_q281_1 mj_q281_e
theorem mj_r281_0 : mj_cz mj_m281 ((mj_rw mj_m281).drop 0) 0 = true := mj_pc_1 (y := mj_m281) (a := 0) (n := 40) mj_q281_0 mj_r281_1
theorem mj_q281 : mj_cr mj_m281 = true := mj_pc_0 mj_r281_0
set_option maxRecDepth 100000 in
set_option maxHeartbeats 8000000 in
theorem mj_q304_0 : mj_pc mj_m304 0 40 = true := by decide +kernel
set_option maxRecDepth 100000 in
set_option maxHeartbeats 8000000 in
theorem mj_q304_1 : mj_pc mj_m304 40 40 = true := by decide +kernel
set_option maxRecDepth 100000 in
theorem mj_q304_e : mj_cz mj_m304 ((mj_rw mj_m304).drop 80) 80 = true := by decide +kernel
theorem mj_r304_1 : mj_cz mj_m304 ((mj_rw mj_m304).drop 40) 40 = true := mj_pc_1 (y := mj_m304) (a := 40) (n := 40) mj_q304_1 mj_q304_e
theorem mj_r304_0 : mj_cz mj_m304 ((mj_rw mj_m304).drop 0) 0 = true := mj_pc_1 (y := mj_m304) (a := 0) (n := 40) mj_q304_0 mj_r304_1
theorem mj_q304 : mj_cr mj_m304 = true := mj_pc_0 mj_r304_0
set_option maxRecDepth 100000 in
set_option maxHeartbeats 8000000 in
theorem mj_q311_0 : mj_pc mj_m311 0 40 = true := by decide +kernel
set_option maxRecDepth 100000 in
set_option maxHeartbeats 8000000 in
theorem mj_q311_1 : mj_pc mj_m311 40 40 = true := by decide +kernel
set_option maxRecDepth 100000 in
set_option maxHeartbeats 8000000 in
theorem mj_q311_2 : mj_pc mj_m311 80 40 = true := by decide +kernel
set_option maxRecDepth 100000 in
set_option maxHeartbeats 8000000 in
theorem mj_q311_3 : mj_pc mj_m311 120 40 = true := by decide +kernel
set_option maxRecDepth 100000 in
theorem mj_q311_e : mj_cz mj_m311 ((mj_rw mj_m311).drop 160) 160 = true := by decide +kernel
theorem mj_r311_3 : mj_cz mj_m311 ((mj_rw mj_m311).drop 120) 120 = true := mj_pc_1 (y := mj_m311) (a := 120) (n := 40) mj_q311_3 mj_q311_e
theorem mj_r311_2 : mj_cz mj_m311 ((mj_rw mj_m311).drop 80) 80 = true := mj_pc_1 (y := mj_m311) (a := 80) (n := 40) mj_q311_2 mj_r311_3
theorem mj_r311_1 : mj_cz mj_m311 ((mj_rw mj_m311).drop 40) 40 = true := mj_pc_1 (y := mj_m311) (a := 40) (n := 40) mj_q311_1 mj_r311_2
theorem mj_r311_0 : mj_cz mj_m311 ((mj_rw mj_m311).drop 0) 0 = true := mj_pc_1 (y := mj_m311) (a := 0) (n := 40) mj_q311_0 mj_r311_1
theorem mj_q311 : mj_cr mj_m311 = true := mj_pc_0 mj_r311_0
set_option maxRecDepth 100000 in
set_option maxHeartbeats 8000000 in
theorem mj_q355_0 : mj_pc mj_m355 0 40 = true := by decide +kernel
set_option maxRecDepth 100000 in
set_option maxHeartbeats 8000000 in
theorem mj_q355_1 : mj_pc mj_m355 40 40 = true := by decide +kernel
set_option maxRecDepth 100000 in
set_option maxHeartbeats 8000000 in
theorem mj_q355_2 : mj_pc mj_m355 80 40 = true := by decide +kernel
set_option maxRecDepth 100000 in
set_option maxHeartbeats 8000000 in
theorem mj_q355_3 : mj_pc mj_m355 120 40 = true := by decide +kernel
set_option maxRecDepth 100000 in
set_option maxHeartbeats 8000000 in
theorem mj_q355_4 : mj_pc mj_m355 160 40 = true := by decide +kernel
set_option maxRecDepth 100000 in
set_option maxHeartbeats 8000000 in
theorem mj_q355_5 : mj_pc mj_m355 200 40 = true := by decide +kernel
set_option maxRecDepth 100000 in
set_option maxHeartbeats 8000000 in
theorem mj_q355_6 : mj_pc mj_m355 240 40 = true := by decide +kernel
set_option maxRecDepth 100000 in
set_option maxHeartbeats 8000000 in
theorem mj_q355_7 : mj_pc mj_m355 280 40 = true := by decide +kernel
set_option maxRecDepth 100000 in
set_option maxHeartbeats 8000000 in
theorem mj_q355_8 : mj_pc mj_m355 320 40 = true := by decide +kernel
set_option maxRecDepth 100000 in
set_option maxHeartbeats 8000000 in
theorem mj_q355_9 : mj_pc mj_m355 360 40 = true := by decide +kernel
set_option maxRecDepth 100000 in
set_option maxHeartbeats 8000000 in
theorem mj_q355_10 : mj_pc mj_m355 400 40 = true := by decide +kernel
set_option maxRecDepth 100000 in
theorem mj_q355_e : mj_cz mj_m355 ((mj_rw mj_m355).drop 440) 440 = true := by decide +kernel
theorem mj_r355_10 : mj_cz mj_m355 ((mj_rw mj_m355).drop 400) 400 = true := mj_pc_1 (y := mj_m355) (a := 400) (n := 40) mj_q355_10 mj_q355_e
theorem mj_r355_9 : mj_cz mj_m355 ((mj_rw mj_m355).drop 360) 360 = true := mj_pc_1 (y := mj_m355) (a := 360) (n := 40) mj_q355_9 mj_r355_10
theorem mj_r355_8 : mj_cz mj_m355 ((mj_rw mj_m355).drop 320) 320 = true := mj_pc_1 (y := mj_m355) (a := 320) (n := 40) mj_q355_8 mj_r355_9
theorem mj_r355_7 : mj_cz mj_m355 ((mj_rw mj_m355).drop 280) 280 = true := mj_pc_1 (y := mj_m355) (a := 280) (n := 40) mj_q355_7 mj_r355_8
theorem mj_r355_6 : mj_cz mj_m355 ((mj_rw mj_m355).drop 240) 240 = true := mj_pc_1 (y := mj_m355) (a := 240) (n := 40) mj_q355_6 mj_r355_7
theorem mj_r355_5 : mj_cz mj_m355 ((mj_rw mj_m355).drop 200) 200 = true := mj_pc_1 (y := mj_m355) (a := 200) (n := 40) mj_q355_5 mj_r355_6
theorem mj_r355_4 : mj_cz mj_m355 ((mj_rw mj_m355).drop 160) 160 = true := mj_pc_1 (y := mj_m355) (a := 160) (n := 40) mj_q355_4 mj_r355_5
theorem mj_r355_3 : mj_cz mj_m355 ((mj_rw mj_m355).drop 120) 120 = true := mj_pc_1 (y := mj_m355) (a := 120) (n := 40) mj_q355_3 mj_r355_4
theorem mj_r355_2 : mj_cz mj_m355 ((mj_rw mj_m355).drop 80) 80 = true := mj_pc_1 (y := mj_m355) (a := 80) (n := 40) mj_q355_2 mj_r355_3
theorem mj_r355_1 : mj_cz mj_m355 ((mj_rw mj_m355).drop 40) 40 = true := mj_pc_1 (y := mj_m355) (a := 40) (n := 40) mj_q355_1 mj_r355_2
theorem mj_r355_0 : mj_cz mj_m355 ((mj_rw mj_m355).drop 0) 0 = true := mj_pc_1 (y := mj_m355) (a := 0) (n := 40) mj_q355_0 mj_r355_1
theorem mj_q355 : mj_cr mj_m355 = true := mj_pc_0 mj_r355_0
end
