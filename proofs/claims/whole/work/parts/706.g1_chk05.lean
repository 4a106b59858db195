/- g1.chk05 -/
section
set_option maxRecDepth 512
set_option maxRecDepth 100000 in
set_option maxHeartbeats 8000000 in
theorem mj_q8 : mj_cr mj_m8 = true := by decide +kernel
set_option maxRecDepth 100000 in
set_option maxHeartbeats 8000000 in
theorem mj_q87_0 : mj_pc mj_m87 0 40 = true := by decide +kernel
set_option maxRecDepth 100000 in
set_option maxHeartbeats 8000000 in
theorem mj_q87_1 : mj_pc mj_m87 40 40 = true := by decide +kernel
set_option maxRecDepth 100000 in
theorem mj_q87_e : mj_cz mj_m87 ((mj_rw mj_m87).drop 80) 80 = true := by decide +kernel
theorem mj_r87_1 : mj_cz mj_m87 ((mj_rw mj_m87).drop 40) 40 = true := mj_pc_1 (y := mj_m87) (a := 40) (n := 40) mj_q87_1 mj_q87_e
theorem mj_r87_0 : mj_cz mj_m87 ((mj_rw mj_m87).drop 0) 0 = true := mj_pc_1 (y := mj_m87) (a := 0) (n := 40) mj_q87_0 mj_r87_1
theorem mj_q87 : mj_cr mj_m87 = true := mj_pc_0 mj_r87_0
set_option maxRecDepth 100000 in
set_option maxHeartbeats 8000000 in
theorem mj_q97 : mj_cr mj_m97 = true := by decide +kernel
set_option maxRecDepth 100000 in
set_option maxHeartbeats 8000000 in
theorem mj_q106_0 : mj_pc mj_m106 0 40 = true := by decide +kernel
set_option maxRecDepth 100000 in
set_option maxHeartbeats 8000000 in
theorem mj_q106_1 : mj_pc mj_m106 40 40 = true := by decide +kernel
set_option maxRecDepth 100000 in
theorem mj_q106_e : mj_cz mj_m106 ((mj_rw mj_m106).drop 80) 80 = true := by decide +kernel
theorem mj_r106_1 : mj_cz mj_m106 ((mj_rw mj_m106).drop 40) 40 = true := mj_pc_1 (y := mj_m106) (a := 40) (n := 40) mj_q106_1 mj_q106_e
theorem mj_r106_0 : mj_cz mj_m106 ((mj_rw mj_m106).drop 0) 0 = true := mj_pc_1 (y := mj_m106) (a := 0) (n := 40) mj_q106_0 mj_r106_1
theorem mj_q106 : mj_cr mj_m106 = true := mj_pc_0 mj_r106_0
set_option maxRecDepth 100000 in
set_option maxHeartbeats 8000000 in
theorem mj_q129 : mj_cr mj_m129 = true := by decide +kernel
set_option maxRecDepth 100000 in
set_option maxHeartbeats 8000000 in
theorem mj_q146 : mj_cr mj_m146 = true := by decide +kernel
set_option maxRecDepth 100000 in
set_option maxHeartbeats 8000000 in
theorem mj_q175_0 : mj_pc mj_m175 0 40 = true := by decide +kernel
set_option maxRecDepth 100000 in
set_option maxHeartbeats 8000000 in
theorem mj_q175_1 : mj_pc mj_m175 40 40 = true := by decide +kernel
set_option maxRecDepth 100000 in
set_option maxHeartbeats 8000000 in
theorem mj_q175_2 : mj_pc mj_m175 80 40 = true := by decide +kernel
set_option maxRecDepth 100000 in
theorem mj_q175_e : mj_cz mj_m175 ((mj_rw mj_m175).drop 120) 120 = true := by decide +kernel
theorem mj_r175_2 : mj_cz mj_m175 ((mj_rw mj_m175).drop 80) 80 = true := mj_pc_1 (y := mj_m175) (a := 80) (n := 40) mj_q175_2 mj_q175_e
theorem mj_r175_1 : mj_cz mj_m175 ((mj_rw mj_m175).drop 40) 40 = true := mj_pc_1 (y := mj_m175) (a := 40) (n := 40) mj_q175_1 mj_r175_2
theorem mj_r175_0 : mj_cz mj_m175 ((mj_rw mj_m175).drop 0) 0 = true := mj_pc_1 (y := mj_m175) (a := 0) (n := 40) mj_q175_0 mj_r175_1
theorem mj_q175 : mj_cr mj_m175 = true := mj_pc_0 mj_r175_0
set_option maxRecDepth 100000 in
set_option maxHeartbeats 8000000 in
theorem mj_q217 : mj_cr mj_m217 = true := by decide +kernel
set_option maxRecDepth 100000 in
set_option maxHeartbeats 8000000 in
theorem mj_q249 : mj_cr mj_m249 = true := by decide +kernel
set_option maxRecDepth 100000 in
set_option maxHeartbeats 8000000 in
theorem mj_q253 : mj_cr mj_m253 = true := by decide +kernel
set_option maxRecDepth 100000 in
set_option maxHeartbeats 8000000 in
theorem mj_q258_0 : mj_pc mj_m258 0 40 = true := by decide +kernel
set_option maxRecDepth 100000 in
set_option maxHeartbeats 8000000 in
theorem mj_q258_1 : mj_pc mj_m258 40 40 = true := by decide +kernel
set_option maxRecDepth 100000 in
theorem mj_q258_e : mj_cz mj_m258 ((mj_rw mj_m258).drop 80) 80 = true := by decide +kernel
theorem mj_r258_1 : mj_cz mj_m258 ((mj_rw mj_m258).drop 40) 40 = true := mj_pc_1 (y := mj_m258) (a := 40) (n := 40) mj_q258_1 mj_q258_e
theorem mj_r258_0 : mj_cz mj_m258 ((mj_rw mj_m258).drop 0) 0 = true := mj_pc_1 (y := mj_m258) (a := 0) (n := 40) mj_q258_0 mj_r258_1
theorem mj_q258 : mj_cr mj_m258 = true := mj_pc_0 mj_r258_0
set_option maxRecDepth 100000 in
set_option maxHeartbeats 8000000 in
theorem mj_q286_0 : mj_pc mj_m286 0 40 = true := by decide +kernel
set_option maxRecDepth 100000 in
set_option maxHeartbeats 8000000 in
theorem mj_q286_1 : mj_pc mj_m286 40 40 = true := by decide +kernel
set_option maxRecDepth 100000 in
set_option maxHeartbeats 8000000 in
theorem mj_q286_2 : mj_pc mj_m286 80 40 = true := by decide +kernel
set_option maxRecDepth 100000 in
theorem mj_q286_e : mj_cz mj_m286 ((mj_rw mj_m286).drop 120) 120 = true := by decide +kernel
theorem mj_r286_2 : mj_cz mj_m286 ((mj_rw mj_m286).drop 80) 80 = true := mj_pc_1 (y := mj_m286) (a := 80) (n := 40) mj_q286_2 mj_q286_e
theorem mj_r286_1 : mj_cz mj_m286 ((mj_rw mj_m286).drop 40) 40 = true := mj_pc_1 (y := mj_m286) (a := 40) (n := 40) mj_q286_1 mj_r286_2
theorem mj_r286_0 : mj_cz mj_m286 ((mj_rw mj_m286).drop 0) 0 = true := mj_pc_1 (y := mj_m286) (a := 0) (n := 40) mj_q286_0 mj_r286_1
theorem mj_q286 : mj_cr mj_m286 = true := mj_pc_0 mj_r286_0
set_option maxRecDepth 100000 in
set_option maxHeartbeats 8000000 in
theorem mj_q319_0 : mj_pc mj_m319 0 40 = true := by decide +kernel
set_option maxRecDepth 100000 in
set_option maxHeartbeats 8000000 in
theorem mj_q319_1 : mj_pc mj_m319 40 40 = true := by decide +kernel
set_option maxRecDepth 100000 in
set_option maxHeartbeats 8000000 in
theorem mj_q319_2 : mj_pc mj_m319 80 40 = true := by decide +kernel
set_option maxRecDepth 100000 in
set_option maxHeartbeats 8000000 in
theorem mj_q319_3 : mj_pc mj_m319 120 40 = true := by decide +kernel
set_option maxRecDepth 100000 in
theorem mj_q319_e : mj_cz mj_m319 ((mj_rw mj_m319).drop 160) 160 = true := by decide +kernel
theorem mj_r319_3 : mj_cz mj_m319 ((mj_rw mj_m319).drop 120) 120 = true := mj_pc_1 (y := mj_m319) (a := 120) (n := 40) mj_q319_3 mj_q319_e
theorem mj_r319_2 : mj_cz mj_m319 ((mj_rw mj_m319).drop 80) 80 = true := mj_pc_1 (y := mj_m319) (a := 80) (n := 40) mj_q319_2 mj_r319_3
theorem mj_r319_1 : mj_cz mj_m319 ((mj_rw mj_m319).drop 40) 40 = true := mj_pc_1 (y := mj_m319) (a := 40) (n := 40) mj_q319_1 mj_r319_2
theorem mj_r319_0 : mj_cz mj_m319 ((mj_rw mj_m319).drop 0) 0 = true := mj_pc_1 (y := mj_m319) (a := 0) (n := 40) mj_q319_0 mj_r319_1
theorem mj_q319 : mj_cr mj_m319 = true := mj_pc_0 mj_r319_0
set_option maxRecDepth 100000 in
set_option maxHeartbeats 8000000 in
theorem mj_q326 : mj_cr mj_m326 = true := by decide +kernel
set_option maxRecDepth 100000 in
set_option maxHeartbeats 8000000 in
theorem mj_q359_0 : mj_pc mj_m359 0 40 = true := by decide +kernel
set_option maxRecDepth 100000 in
set_option maxHeartbeats 8000000 in
theorem mj_q359_1 : mj_pc mj_m359 40 40 = true := by decide +kernel
set_option maxRecDepth 100000 in
theorem mj_q359_e : mj_cz mj_m359 ((mj_rw mj_m359).drop 80) 80 = true := by decide +kernel
theorem mj_r359_1 : mj_cz mj_m359 ((mj_rw mj_m359).drop 40) 40 = true := mj_pc_1 (y := mj_m359) (a := 40) (n := 40) mj_q359_1 mj_q359_e
theorem mj_r359_0 : mj_cz mj_m359 ((mj_rw mj_m359).drop 0) 0 = true := mj_pc_1 (y := mj_m359) (a := 0) (n := 40) mj_q359_0 mj_r359_1
theorem mj_q359 : mj_cr mj_m359 = true := mj_pc_0 mj_r359_0
set_option maxRecDepth 100000 in
set_option maxHeartbeats 8000000 in
theorem mj_q371_0 : mj_pc mj_m371 0 40 = true := by decide +kernel
set_option maxRecDepth 100000 in
set_option maxHeartbeats 8000000 in
theorem mj_q371_1 : mj_pc mj_m371 40 40 = true := by decide +kernel
set_option maxRecDepth 100000 in
set_option maxHeartbeats 8000000 in
theorem mj_q371_2 : mj_pc mj_m371 80 40 = true := by decide +kernel
set_option maxRecDepth 100000 in
set_option maxHeartbeats 8000000 in
theorem mj_q371_3 : mj_pc mj_m371 120 40 = true := by decide +kernel
set_option maxRecDepth 100000 in
set_option maxHeartbeats 8000000 in
theorem mj_q371_4 : mj_pc mj_m371 160 40 = true := by decide +kernel
set_option maxRecDepth 100000 in
set_option maxHeartbeats 8000000 in
theorem mj_q371_5 : mj_pc mj_m371 200 40 = true := by decide +kernel
set_option maxRecDepth 100000 in
set_option maxHeartbeats 8000000 in
theorem mj_q371_6 : mj_pc mj_m371 240 40 = true := by decide +kernel
set_option maxRecDepth 100000 in
set_option maxHeartbeats 8000000 in
theorem mj_q371_7 : mj_pc mj_m371 280 40 = true := by decide +kernel
set_option maxRecDepth 100000 in
set_option maxHeartbeats 8000000 in
theorem mj_q371_8 : mj_pc mj_m371 320 40 = true := by decide +kernel
set_option maxRecDepth 100000 in
set_option maxHeartbeats 8000000 in
theorem mj_q371_9 : mj_pc mj_m371 360 40 = true := by decide +kernel
set_option maxRecDepth 100000 in
set_option maxHeartbeats 8000000 in
theorem mj_q371_10 : mj_pc mj_m371 400 40 = true := by decide +kernel
set_option maxRecDepth 100000 in
set_option maxHeartbeats 8000000 in
theorem mj_q371_11 : mj_pc mj_m371 440 40 = true := by decide +kernel
set_option maxRecDepth 100000 in
theorem mj_q371_e : mj_cz mj_m371 ((mj_rw mj_m371).drop 480) 480 = true := by decide +kernel
theorem mj_r371_11 : mj_cz mj_m371 ((mj_rw mj_m371).drop 440) 440 = true := mj_pc_1 (y := mj_m371) (a := 440) (n := 40) mj_q371_11 mj_q371_e
theorem mj_r371_10 : mj_cz mj_m371 ((mj_rw mj_m371).drop 400) 400 = true := mj_pc_1 (y := mj_m371) (a := 400) (n := 40) mj_q371_10 mj_r371_11
theorem mj_r371_9 : mj_cz mj_m371 ((mj_rw mj_m371).drop 360) 360 = true := mj_pc_1 (y := mj_m371) (a := 360) (n := 40) mj_q371_9 mj_r371_10
theorem mj_r371_8 : mj_cz mj_m371 ((mj_rw mj_m371).drop 320) 320 = true := mj_pc_1 (y := mj_m371) (a := 320) (n := 40) mj_q371_8 mj_r371_9
theorem mj_r371_7 : mj_cz mj_m371 ((mj_rw mj_m371).drop 280) 280 = true := mj_pc_1 (y := mj_m371) (a := 280) (n := 40) mj_q371_7 mj_r371_8
theorem mj_r371_6 : mj_cz mj_m371 ((mj_rw mj_m371).drop 240) 240 = true := mj_pc_1 (y := mj_m371) (a := 240) (n := 40) mj_q371_6 mj_r371_7
theorem mj_r371_5 : mj_cz mj_m371 ((mj_rw mj_m371).drop 200) 200 = true := mj_pc_1 (y := mj_m371) (a := 200) (n := 40) mj_q371_5 mj_r371_6
theorem mj_r371_4 : mj_cz mj_m371 ((mj_rw mj_m371).drop 160) 160 = true := mj_pc_1 (y := mj_m371) (a := 160) (n := 40) mj_q371_4 mj_r371_5
theorem mj_r371_3 : mj_cz mj_m371 ((mj_rw mj_m371).drop 120) 120 = true := mj_pc_1 (y := mj_m371) (a := 120) (n := 40) mj_q371_3 mj_r371_4
theorem mj_r371_2 : mj_cz mj_m371 ((mj_rw mj_m371).drop 80) 80 = true := mj_pc_1 (y := mj_m371) (a := 80) (n := 40) mj_q371_2 mj_r371_3
theorem mj_r371_1 : mj_cz mj_m371 ((mj_rw mj_m371).drop 40) 40 = true := mj_pc_1 (y := mj_m371) (a := 40) (n := 40) mj_q371_1 mj_r371_2
theorem mj_r371_0 : mj_cz mj_m371 ((mj_rw mj_m371).drop 0) 0 = true := mj_pc_1 (y := mj_m371) (a := 0) (n := 40) mj_q371_0 mj_r371_1
theorem mj_q371 : mj_cr mj_m371 = true := mj_pc_0 mj_r371_0
set_option maxRecDepth 100000 in
set_option maxHeartbeats 8000000 in
theorem mj_q372_0 : mj_pc mj_m372 0 40 = true := by decide +kernel
set_option maxRecDepth 100000 in
set_option maxHeartbeats 8000000 in
theorem mj_q372_1 : mj_pc mj_m372 40 40 = true := by decide +kernel
set_option maxRecDepth 100000 in
theorem mj_q372_e : mj_cz mj_m372 ((mj_rw mj_m372).drop 80) 80 = true := by decide +kernel
theorem mj_r372_1 : mj_cz mj_m372 ((mj_rw mj_m372).drop 40) 40 = true := mj_pc_1 (y := mj_m372) (a := 40) (n := 40) mj_q372_1 mj_q372_e
theorem mj_r372_0 : mj_cz mj_m372 ((mj_rw mj_m372).drop 0) 0 = true := mj_pc_1 (y := mj_m372) (a := 0) (n := 40) mj_q372_0 mj_r372_1
theorem mj_q372 : mj_cr mj_m372 = true := mj_pc_0 mj_r372_0
end
