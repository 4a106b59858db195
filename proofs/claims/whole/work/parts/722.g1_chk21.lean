/- g1.chk21 -/
section
set_option maxRecDepth 512
set_option maxRecDepth 100000 in
set_option maxHeartbeats 8000000 in
theorem mj_q13 : mj_cr mj_m13 = true := by decide +kernel
set_option maxRecDepth 100000 in
set_option maxHeartbeats 8000000 in
theorem mj_q75_0 : mj_pc mj_m75 0 40 = true := by decide +kernel
set_option maxRecDepth 100000 in
set_option maxHeartbeats 8000000 in
theorem mj_q75_1 : mj_pc mj_m75 40 40 = true := by decide +kernel
set_option maxRecDepth 100000 in
theorem mj_q75_e : mj_cz mj_m75 ((mj_rw mj_m75).drop 80) 80 = true := by decide +kernel
theorem mj_r75_1 : mj_cz mj_m75 ((mj_rw mj_m75).drop 40) 40 = true := mj_pc_1 (y := mj_m75) (a := 40) (n := 40) mj_q75_1 mj_q75_e
theorem mj_r75_0 : mj_cz mj_m75 ((mj_rw mj_m75).drop 0) 0 = true := mj_pc_1 (y := mj_m75) (a := 0) (n := 40) mj_q75_0 mj_r75_1
theorem mj_q75 : mj_cr mj_m75 = true := mj_pc_0 mj_r75_0
set_option maxRecDepth 100000 in
set_option maxHeartbeats 8000000 in
theorem mj_q110 : mj_cr mj_m110 = true := by decide +kernel
set_option maxRecDepth 100000 in
set_option maxHeartbeats 8000000 in
theorem mj_q115 : mj_cr mj_m115 = true := by decide +kernel
set_option maxRecDepth 100000 in
set_option maxHeartbeats 8000000 in
theorem mj_q133_0 : mj_pc mj_m133 0 40 = true := by decide +kernel
set_option maxRecDepth 100000 in
set_option maxHeartbeats 8000000 in
theorem mj_q133_1 : mj_pc mj_m133 40 40 = true := by decide +kernel
set_option maxRecDepth 100000 in
theorem mj_q133_e : mj_cz mj_m133 ((mj_rw mj_m133).drop 80) 80 = true := by decide +kernel
theorem mj_r133_1 : mj_cz mj_m133 ((mj_rw mj_m133).drop 40) 40 = true := mj_pc_1 (y := mj_m133) (a := 40) (n := 40) mj_q133_1 mj_q133_e
theorem mj_r133_0 : mj_cz mj_m133 ((mj_rw mj_m133).drop 0) 0 = true := mj_pc_1 (y := mj_m133) (a := 0) (n := 40) mj_q133_0 mj_r133_1
theorem mj_q133 : mj_cr mj_m133 = true := mj_pc_0 mj_r133_0
set_option maxRecDepth 100000 in
set_option maxHeartbeats 8000000 in
theorem mj_q143_0 : mj_pc mj_m143 0 40 = true := by decide +kernel
set_option maxRecDepth 100000 in
set_option maxHeartbeats 8000000 in
theorem mj_q143_1 : mj_pc mj_m143 40 40 = true := by decide +kernel
set_option maxRecDepth 100000 in
set_option maxHeartbeats 8000000 in
theorem mj_q143_2 : mj_pc mj_m143 80 40 = true := by decide +kernel
set_option maxRecDepth 100000 in
set_option maxHeartbeats 8000000 in
theorem mj_q143_3 : mj_pc mj_m143 120 40 = true := by decide +kernel
set_option maxRecDepth 100000 in
set_option maxHeartbeats 8000000 in
theorem mj_q143_4 : mj_pc mj_m143 160 40 = true := by decide +kernel
set_option maxRecDepth 100000 in
set_option maxHeartbeats 8000000 in
theorem mj_q143_5 : mj_pc mj_m143 200 40 = true := by decide +kernel
set_option maxRecDepth 100000 in
set_option maxHeartbeats 8000000 in
theorem mj_q143_6 : mj_pc mj_m143 240 40 = true := by decide +kernel
set_option maxRecDepth 100000 in
theorem mj_q143_e : mj_cz mj_m143 ((mj_rw mj_m143).drop 280) 280 = true := by decide +kernel
theorem mj_r143_6 : mj_cz mj_m143 ((mj_rw mj_m143).drop 240) 240 = true := mj_pc_1 (y := mj_m143) (a := 240) (n := 40) mj_q143_6 mj_q143_e
theorem mj_r143_5 : mj_cz mj_m143 ((mj_rw mj_m143).drop 200) 200 = true := mj_pc_1 (y := mj_m143) (a := 200) (n := 40) mj_q143_5 mj_r143_6
theorem mj_r143_4 : mj_cz mj_m143 ((mj_rw mj_m143).drop 160) 160 = true := mj_pc_1 (y := mj_m143) (a := 160) (n := 40) mj_q143_4 mj_r143_5
theorem mj_r143_3 : mj_cz mj_m143 ((mj_rw mj_m143).drop 120) 120 = true := mj_pc_1 (y := mj_m143) (a := 120) (n := 40) mj_q143_3 mj_r143_4
theorem mj_r143_2 : mj_cz mj_m143 ((mj_rw mj_m143).drop 80) 80 = true := mj_pc_1 (y := mj_m143) (a := 80) (n := 40) mj_q143_2 mj_r143_3
theorem mj_r143_1 : mj_cz mj_m143 ((mj_rw mj_m143).drop 40) 40 = true := mj_pc_1 (y := mj_m143) (a := 40) (n := 40) mj_q143_1 mj_r143_2
theorem mj_r143_0 : mj_cz mj_m143 ((mj_rw mj_m143).drop 0) 0 = true := mj_pc_1 (y := mj_m143) (a := 0) (n := 40) mj_q143_0 mj_r143_1
theorem mj_q143 : mj_cr mj_m143 = true := mj_pc_0 mj_r143_0
set_option maxRecDepth 100000 in
set_option maxHeartbeats 8000000 in
theorem mj_q149_0 : mj_pc mj_m149 0 40 = true := by decide +kernel
set_option maxRecDepth 100000 in
set_option maxHeartbeats 8000000 in
theorem mj_q149_1 : mj_pc mj_m149 40 40 = true := by decide +kernel
set_option maxRecDepth 100000 in
theorem mj_q149_e : mj_cz mj_m149 ((mj_rw mj_m149).drop 80) 80 = true := by decide +kernel
theorem mj_r149_1 : mj_cz mj_m149 ((mj_rw mj_m149).drop 40) 40 = true := mj_pc_1 (y := mj_m149) (a := 40) (n := 40) mj_q149_1 mj_q149_e
theorem mj_r149_0 : mj_cz mj_m149 ((mj_rw mj_m149).drop 0) 0 = true := mj_pc_1 (y := mj_m149) (a := 0) (n := 40) mj_q149_0 mj_r149_1
theorem mj_q149 : mj_cr mj_m149 = true := mj_pc_0 mj_r149_0
set_option maxRecDepth 100000 in
set_option maxHeartbeats 8000000 in
theorem mj_q154_0 : mj_pc mj_m154 0 40 = true := by decide +kernel
set_option maxRecDepth 100000 in
set_option maxHeartbeats 8000000 in
theorem mj_q154_1 : mj_pc mj_m154 40 40 = true := by decide +kernel
set_option maxRecDepth 100000 in
theorem mj_q154_e : mj_cz mj_m154 ((mj_rw mj_m154).drop 80) 80 = true := by decide +kernel
theorem mj_r154_1 : mj_cz mj_m154 ((mj_rw mj_m154).drop 40) 40 = true := mj_pc_1 (y := mj_m154) (a := 40) (n := 40) mj_q154_1 mj_q154_e
theorem mj_r154_0 : mj_cz mj_m154 ((mj_rw mj_m154).drop 0) 0 = true := mj_pc_1 (y := mj_m154) (a := 0) (n := 40) mj_q154_0 mj_r154_1
theorem mj_q154 : mj_cr mj_m154 = true := mj_pc_0 mj_r154_0
set_option maxRecDepth 100000 in
set_option maxHeartbeats 8000000 in
theorem mj_q178_0 : mj_pc mj_m178 0 40 = true := by decide +kernel
set_option maxRecDepth 100000 in
set_option maxHeartbeats 8000000 in
theorem mj_q178_1 : mj_pc mj_m178 40 40 = true := by decide +kernel
set_option maxRecDepth 100000 in
theorem mj_q178_e : mj_cz mj_m178 ((mj_rw mj_m178).drop 80) 80 = true := by decide +kernel
theorem mj_r178_1 : mj_cz mj_m178 ((mj_rw mj_m178).drop 40) 40 = true := mj_pc_1 (y := mj_m178) (a := 40) (n := 40) mj_q178_1 mj_q178_e
theorem mj_r178_0 : mj_cz mj_m178 ((mj_rw mj_m178).drop 0) 0 = true := mj_pc_1 (y := mj_m178) (a := 0) (n := 40) mj_q178_0 mj_r178_1
theorem mj_q178 : mj_cr mj_m178 = true := mj_pc_0 mj_r178_0
set_option maxRecDepth 100000 in
set_option maxHeartbeats 8000000 in
theorem mj_q220_0 : mj_pc mj_m220 0 40 = true := by decide +kernel
set_option maxRecDepth 100000 in
set_option maxHeartbeats 8000000 in
theorem mj_q220_1 : mj_pc mj_m220 40 40 = true := by decide +kernel
set_option maxRecDepth 100000 in
theorem mj_q220_e : mj_cz mj_m220 ((mj_rw mj_m220).drop 80) 80 = true := by decide +kernel
theorem mj_r220_1 : mj_cz mj_m220 ((mj_rw mj_m220).drop 40) 40 = true := mj_pc_1 (y := mj_m220) (a := 40) (n := 40) mj_q220_1 mj_q220_e
theorem mj_r220_0 : mj_cz mj_m220 ((mj_rw mj_m220).drop 0) 0 = true := mj_pc_1 (y := mj_m220) (a := 0) (n := 40) mj_q220_0 mj_r220_1
theorem mj_q220 : mj_cr mj_m220 = true := mj_pc_0 mj_r220_0
set_option maxRecDepth 100000 in
set_option maxHeartbeats 8000000 in
theorem mj_q237 : mj_cr mj_m237 = true := by decide +kernel
set_option maxRecDepth 100000 in
set_option maxHeartbeats 8000000 in
theorem mj_q245_0 : mj_pc mj_m245 0 40 = true := by decide +kernel
set_option maxRecDepth 100000 in
set_option maxHeartbeats 8000000 in
theorem mj_q245_1 : mj_pc mj_m245 40 40 = true := by decide +kernel
set_option maxRecDepth 100000 in
set_option maxHeartbeats 8000000 in
theorem mj_q245_2 : mj_pc mj_m245 80 40 = true := by decide +kernel
set_option maxRecDepth 100000 in
theorem mj_q245_e : mj_cz mj_m245 ((mj_rw mj_m245).drop 120) 120 = true := by decide +kernel
theorem mj_r245_2 : mj_cz mj_m245 ((mj_rw mj_m245).drop 80) 80 = true := mj_pc_1 (y := mj_m245) (a := 80) (n := 40) mj_q245_2 mj_q245_e
theorem mj_r245_1 : mj_cz mj_m245 ((mj_rw mj_m245).drop 40) 40 = true := mj_pc_1 (y := mj_m245) (a := 40) (n := 40) mj_q245_1 mj_r245_2
theorem mj_r245_0 : mj_cz mj_m245 ((mj_rw mj_m245).drop 0) 0 = true := mj_pc_1 (y := mj_m245) (a := 0) (n := 40) mj_q245_0 mj_r245_1
theorem mj_q245 : mj_cr mj_m245 = true := mj_pc_0 mj_r245_0
set_option maxRecDepth 100000 in
set_option maxHeartbeats 8000000 in
theorem mj_q257 : mj_cr mj_m257 = true := by decide +kernel
set_option maxRecDepth 100000 in
set_option maxHeartbeats 8000000 in
theorem mj_q293_0 : mj_pc mj_m293 0 40 = true := by decide +kernel
set_option maxRecDepth 100000 in
set_option maxHeartbeats 8000000 in
theorem mj_q293_1 : mj_pc mj_m293 40 40 = true := by decide +kernel
set_option maxRecDepth 100000 in
set_option maxHeartbeats 8000000 in
theorem mj_q293_2 : mj_pc mj_m293 80 40 = true := by decide +kernel
set_option maxRecDepth 100000 in
set_option maxHeartbeats 8000000 in
theorem mj_q293_3 : mj_pc mj_m293 120 40 = true := by decide +kernel
set_option maxRecDepth 100000 in
theorem mj_q293_e : mj_cz mj_m293 ((mj_rw mj_m293).drop 160) 160 = true := by decide +kernel
theorem mj_r293_3 : mj_cz mj_m293 ((mj_rw mj_m293).drop 120) 120 = true := mj_pc_1 (y := mj_m293) (a := 120) (n := 40) mj_q293_3 mj_q293_e
theorem mj_r293_2 : mj_cz mj_m293 ((mj_rw mj_m293).drop 80) 80 = true := mj_pc_1 (y := mj_m293) (a := 80) (n := 40) mj_q293_2 mj_r293_3
theorem mj_r293_1 : mj_cz mj_m293 ((mj_rw mj_m293).drop 40) 40 = true := mj_pc_1 (y := mj_m293) (a := 40) (n := 40) mj_q293_1 mj_r293_2
theorem mj_r293_0 : mj_cz mj_m293 ((mj_rw mj_m293).drop 0) 0 = true := mj_pc_1 (y := mj_m293) (a := 0) (n := 40) mj_q293_0 mj_r293_1
theorem mj_q293 : mj_cr mj_m293 = true := mj_pc_0 mj_r293_0
set_option maxRecDepth 100000 in
set_option maxHeartbeats 8000000 in
theorem mj_q332 : mj_cr mj_m332 = true := by decide +kernel
set_option maxRecDepth 100000 in
set_option maxHeartbeats 8000000 in
theorem mj_q358_0 : mj_pc mj_m358 0 40 = true := by decide +kernel
set_option maxRecDepth 100000 in
set_option maxHeartbeats 8000000 in
theorem mj_q358_1 : mj_pc mj_m358 40 40 = true := by decide +kernel
set_option maxRecDepth 100000 in
set_option maxHeartbeats 8000000 in
theorem mj_q358_2 : mj_pc mj_m358 80 40 = true := by decide +kernel
set_option maxRecDepth 100000 in
theorem mj_q358_e : mj_cz mj_m358 ((mj_rw mj_m358).drop 120) 120 = true := by decide +kernel
theorem mj_r358_2 : mj_cz mj_m358 ((mj_rw mj_m358).drop 80) 80 = true := mj_pc_1 (y := mj_m358) (a := 80) (n := 40) mj_q358_2 mj_q358_e
theorem mj_r358_1 : mj_cz mj_m358 ((mj_rw mj_m358).drop 40) 40 = true := mj_pc_1 (y := mj_m358) (a := 40) (n := 40) mj_q358_1 mj_r358_2
theorem mj_r358_0 : mj_cz mj_m358 ((mj_rw mj_m358).drop 0) 0 = true := mj_pc_1 (y := mj_m358) (a := 0) (n := 40) mj_q358_0 mj_r358_1
theorem mj_q358 : mj_cr mj_m358 = true := mj_pc_0 mj_r358_0
set_option maxRecDepth 100000 in
set_option maxHeartbeats 8000000 in
theorem mj_q361 : mj_cr mj_m361 = true := by decide +kernel
set_option maxRecDepth 100000 in
set_option maxHeartbeats 8000000 in
theorem mj_q374_0 : mj_pc mj_m374 0 40 = true := by decide +kernel
set_option maxRecDepth 100000 in
set_option maxHeartbeats 8000000 in
theorem mj_q374_1 : mj_pc mj_m374 40 40 = true := by decide +kernel
set_option maxRecDepth 100000 in
set_option maxHeartbeats 8000000 in
theorem mj_q374_2 : mj_pc mj_m374 80 40 = true := by decide +kernel
set_option maxRecDepth 100000 in
set_option maxHeartbeats 8000000 in
theorem mj_q374_3 : mj_pc mj_m374 120 40 = true := by decide +kernel
set_option maxRecDepth 100000 in
set_option maxHeartbeats 8000000 in
theorem mj_q374_4 : mj_pc mj_m374 160 40 = true := by decide +kernel
set_option maxRecDepth 100000 in
theorem mj_q374_e : mj_cz mj_m374 ((mj_rw mj_m374).drop 200) 200 = true := by decide +kernel
theorem mj_r374_4 : mj_cz mj_m374 ((mj_rw mj_m374).drop 160) 160 = true := mj_pc_1 (y := mj_m374) (a := 160) (n := 40) mj_q374_4 mj_q374_e
theorem mj_r374_3 : mj_cz mj_m374 ((mj_rw mj_m374).drop 120) 120 = true := mj_pc_1 (y := mj_m374) (a := 120) (n := 40) mj_q374_3 mj_r374_4
theorem mj_r374_2 : mj_cz mj_m374 ((mj_rw mj_m374).drop 80) 80 = true := mj_pc_1 (y := mj_m374) (a := 80) (n := 40) mj_q374_2 mj_r374_3
theorem mj_r374_1 : mj_cz mj_m374 ((mj_rw mj_m374).drop 40) 40 = true := mj_pc_1 (y := mj_m374) (a := 40) (n := 40) mj_q374_1 mj_r374_2
theorem mj_r374_0 : mj_cz mj_m374 ((mj_rw mj_m374).drop 0) 0 = true := mj_pc_1 (y := mj_m374) (a := 0) (n := 40) mj_q374_0 mj_r374_1
theorem mj_q374 : mj_cr mj_m374 = true := mj_pc_0 mj_r374_0
set_option maxRecDepth 100000 in
set_option maxHeartbeats 8000000 in
theorem mj_q377_0 : mj_pc mj_m377 0 40 = true := by decide +kernel
set_option maxRecDepth 100000 in
set_option maxHeartbeats 8000000 in
theorem mj_q377_1 : mj_pc mj_m377 40 40 = true := by decide +kernel
set_option maxRecDepth 100000 in
set_option maxHeartbeats 8000000 in
theorem mj_q377_2 : mj_pc mj_m377 80 40 = true := by decide +kernel
set_option maxRecDepth 100000 in
set_option maxHeartbeats 8000000 in
theorem mj_q377_3 : mj_pc mj_m377 120 40 = true := by decide +kernel
set_option maxRecDepth 100000 in
set_option maxHeartbeats 8000000 in
theorem mj_q377_4 : mj_pc mj_m377 160 40 = true := by decide +kernel
set_option maxRecDepth 100000 in
set_option maxHeartbeats 8000000 in
theorem mj_q377_5 : mj_pc mj_m377 200 40 = true := by decide +kernel
set_option maxRecDepth 100000 in
theorem mj_q377_e : mj_cz mj_m377 ((mj_rw mj_m377).drop 240) 240 = true := by decide +kernel
theorem mj_r377_5 : mj_cz mj_m377 ((mj_rw mj_m377).drop 200) 200 = true := mj_pc_1 (y := mj_m377) (a := 200) (n := 40) mj_q377_5 mj_q377_e
theorem mj_r377_4 : mj_cz mj_m377 ((mj_rw mj_m377).drop 160) 160 = true := mj_pc_1 (y := mj_m377) (a := 160) (n := 40) mj_q377_4 mj_r377_5
theorem mj_r377_3 : mj_cz mj_m377 ((mj_rw mj_m377).drop 120) 120 = true := mj_pc_1 (y := mj_m377) (a := 120) (n := 40) mj_q377_3 mj_r377_4
theorem mj_r377_2 : mj_cz mj_m377 ((mj_rw mj_m377).drop 80) 80 = true := mj_pc_1 (y := mj_m377) (a := 80) (n := 40) mj_q377_2 mj_r377_3
theorem mj_r377_1 : mj_cz mj_m377 ((mj_rw mj_m377).drop 40) 40 = true := mj_pc_1 (y := mj_m377) (a := 40) (n := 40) mj_q377_1 mj_r377_2
theorem mj_r377_0 : mj_cz mj_m377 ((mj_rw mj_m377).drop 0) 0 = true := mj_pc_1 (y := mj_m377) (a := 0) (n := 40) mj_q377_0 mj_r377_1
theorem mj_q377 : mj_cr mj_m377 = true := mj_pc_0 mj_r377_0
end
