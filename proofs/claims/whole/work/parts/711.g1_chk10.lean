/- g1.chk10 -/
section
set_option maxRecDepth 512
set_option maxRecDepth 100000 in
set_option maxHeartbeats 8000000 in
theorem mj_q33_0 : mj_pc mj_m33 0 40 = true := by decide +kernel
set_option maxRecDepth 100000 in
set_option maxHeartbeats 8000000 in
theorem mj_q33_1 : mj_pc mj_m33 40 40 = true := by decide +kernel
set_option maxRecDepth 100000 in
set_option maxHeartbeats 8000000 in
theorem mj_q33_2 : mj_pc mj_m33 80 40 = true := by decide +kernel
set_option maxRecDepth 100000 in
theorem mj_q33_e : mj_cz mj_m33 ((mj_rw mj_m33).drop 120) 120 = true := by decide +kernel
theorem mj_r33_2 : mj_cz mj_m33 ((mj_rw mj_m33).drop 80) 80 = true := mj_pc_1 (y := mj_m33) (a := 80) (n := 40) mj_q33_2 mj_q33_e
theorem mj_r33_1 : mj_cz mj_m33 ((mj_rw mj_m33).drop 40) 40 = true := mj_pc_1 (y := mj_m33) (a := 40) (n := 40) mj_q33_1 mj_r33_2
theorem mj_r33_0 : mj_cz mj_m33 ((mj_rw mj_m33).drop 0) 0 = true := mj_pc_1 (y := mj_m33) (a := 0) (n := 40) mj_q33_0 mj_r33_1
theorem mj_q33 : mj_cr mj_m33 = true := mj_pc_0 mj_r33_0
set_option maxRecDepth 100000 in
set_option maxHeartbeats 8000000 in
theorem mj_q74 : mj_cr mj_m74 = true := by decide +kernel
set_option maxRecDepth 100000 in
set_option maxHeartbeats 8000000 in
theorem mj_q89 : mj_cr mj_m89 = true := by decide +kernel
set_option maxRecDepth 100000 in
set_option maxHeartbeats 8000000 in
theorem mj_q94 : mj_cr mj_m94 = true := by decide +kernel
set_option maxRecDepth 100000 in
set_option maxHeartbeats 8000000 in
theorem mj_q113 : mj_cr mj_m113 = true := by decide +kernel
set_option maxRecDepth 100000 in
set_option maxHeartbeats 8000000 in
theorem mj_q134 : mj_cr mj_m134 = true := by decide +kernel
set_option maxRecDepth 100000 in
set_option maxHeartbeats 8000000 in
theorem mj_q150_0 : mj_pc mj_m150 0 40 = true := by decide +kernel
set_option maxRecDepth 100000 in
set_option maxHeartbeats 8000000 in
theorem mj_q150_1 : mj_pc mj_m150 40 40 = true := by decide +kernel
set_option maxRecDepth 100000 in
set_option maxHeartbeats 8000000 in
theorem mj_q150_2 : mj_pc mj_m150 80 40 = true := by decide +kernel
set_option maxRecDepth 100000 in
theorem mj_q150_e : mj_cz mj_m150 ((mj_rw mj_m150).drop 120) 120 = true := by decide +kernel
theorem mj_r150_2 : mj_cz mj_m150 ((mj_rw mj_m150).drop 80) 80 = true := mj_pc_1 (y := mj_m150) (a := 80) (n := 40) mj_q150_2 mj_q150_e
theorem mj_r150_1 : mj_cz mj_m150 ((mj_rw mj_m150).drop 40) 40 = true := mj_pc_1 (y := mj_m150) (a := 40) (n := 40) mj_q150_1 mj_r150_2
theorem mj_r150_0 : mj_cz mj_m150 ((mj_rw mj_m150).drop 0) 0 = true := mj_pc_1 (y := mj_m150) (a := 0) (n := 40) mj_q150_0 mj_r150_1
theorem mj_q150 : mj_cr mj_m150 = true := mj_pc_0 mj_r150_0
set_option maxRecDepth 100000 in
set_option maxHeartbeats 8000000 in
theorem mj_q151_0 : mj_pc mj_m151 0 40 = true := by decide +kernel
set_option maxRecDepth 100000 in
set_option maxHeartbeats 8000000 in
theorem mj_q151_1 : mj_pc mj_m151 40 40 = true := by decide +kernel
set_option maxRecDepth 100000 in
set_option maxHeartbeats 8000000 in
theorem mj_q151_2 : mj_pc mj_m151 80 40 = true := by decide +kernel
set_option maxRecDepth 100000 in
set_option maxHeartbeats 8000000 in
theorem mj_q151_3 : mj_pc mj_m151 120 40 = true := by decide +kernel
set_option maxRecDepth 100000 in
theorem mj_q151_e : mj_cz mj_m151 ((mj_rw mj_m151).drop 160) 160 = true := by decide +kernel
theorem mj_r151_3 : mj_cz mj_m151 ((mj_rw mj_m151).drop 120) 120 = true := mj_pc_1 (y := mj_m151) (a := 120) (n := 40) mj_q151_3 mj_q151_e
theorem mj_r151_2 : mj_cz mj_m151 ((mj_rw mj_m151).drop 80) 80 = true := mj_pc_1 (y := mj_m151) (a := 80) (n := 40) mj_q151_2 mj_r151_3
theorem mj_r151_1 : mj_cz mj_m151 ((mj_rw mj_m151).drop 40) 40 = true := mj_pc_1 (y := mj_m151) (a := 40) (n := 40) mj_q151_1 mj_r151_2
theorem mj_r151_0 : mj_cz mj_m151 ((mj_rw mj_m151).drop 0) 0 = true := mj_pc_1 (y := mj_m151) (a := 0) (n := 40) mj_q151_0 mj_r151_1
theorem mj_q151 : mj_cr mj_m151 = true := mj_pc_0 mj_r151_0
set_option maxRecDepth 100000 in
set_option maxHeartbeats 8000000 in
theorem mj_q165_0 : mj_pc mj_m165 0 40 = true := by decide +kernel
set_option maxRecDepth 100000 in
set_option maxHeartbeats 8000000 in
theorem mj_q165_1 : mj_pc mj_m165 40 40 = true := by decide +kernel
set_option maxRecDepth 100000 in
theorem mj_q165_e : mj_cz mj_m165 ((mj_rw mj_m165).drop 80) 80 = true := by decide +kernel
theorem mj_r165_1 : mj_cz mj_m165 ((mj_rw mj_m165).drop 40) 40 = true := mj_pc_1 (y := mj_m165) (a := 40) (n := 40) mj_q165_1 mj_q165_e
theorem mj_r165_0 : mj_cz mj_m165 ((mj_rw mj_m165).drop 0) 0 = true := mj_pc_1 (y := mj_m165) (a := 0) (n := 40) mj_q165_0 mj_r165_1
theorem mj_q165 : mj_cr mj_m165 = true := mj_pc_0 mj_r165_0
set_option maxRecDepth 100000 in
set_option maxHeartbeats 8000000 in
theorem mj_q182 : mj_cr mj_m182 = true := by decide +kernel
set_option maxRecDepth 100000 in
set_option maxHeartbeats 8000000 in
theorem mj_q196_0 : mj_pc mj_m196 0 40 = true := by decide +kernel
set_option maxRecDepth 100000 in
set_option maxHeartbeats 8000000 in
theorem mj_q196_1 : mj_pc mj_m196 40 40 = true := by decide +kernel
set_option maxRecDepth 100000 in
theorem mj_q196_e : mj_cz mj_m196 ((mj_rw mj_m196).drop 80) 80 = true := by decide +kernel
theorem mj_r196_1 : mj_cz mj_m196 ((mj_rw mj_m196).drop 40) 40 = true := mj_pc_1 (y := mj_m196) (a := 40) (n := 40) mj_q196_1 mj_q196_e
theorem mj_r196_0 : mj_cz mj_m196 ((mj_rw mj_m196).drop 0) 0 = true := mj_pc_1 (y := mj_m196) (a := 0) (n := 40) mj_q196_0 mj_r196_1
theorem mj_q196 : mj_cr mj_m196 = true := mj_pc_0 mj_r196_0
set_option maxRecDepth 100000 in
set_option maxHeartbeats 8000000 in
theorem mj_q209_0 : mj_pc mj_m209 0 40 = true := by decide +kernel
set_option maxRecDepth 100000 in
set_option maxHeartbeats 8000000 in
theorem mj_q209_1 : mj_pc mj_m209 40 40 = true := by decide +kernel
set_option maxRecDepth 100000 in
set_option maxHeartbeats 8000000 in
theorem mj_q209_2 : mj_pc mj_m209 80 40 = true := by decide +kernel
set_option maxRecDepth 100000 in
set_option maxHeartbeats 8000000 in
theorem mj_q209_3 : mj_pc mj_m209 120 40 = true := by decide +kernel
set_option maxRecDepth 100000 in
set_option maxHeartbeats 8000000 in
theorem mj_q209_4 : mj_pc mj_m209 160 40 = true := by decide +kernel
set_option maxRecDepth 100000 in
theorem mj_q209_e : mj_cz mj_m209 ((mj_rw mj_m209).drop 200) 200 = true := by decide +kernel
theorem mj_r209_4 : mj_cz mj_m209 ((mj_rw mj_m209).drop 160) 160 = true := mj_pc_1 (y := mj_m209) (a := 160) (n := 40) mj_q209_4 mj_q209_e
theorem mj_r209_3 : mj_cz mj_m209 ((mj_rw mj_m209).drop 120) 120 = true := mj_pc_1 (y := mj_m209) (a := 120) (n := 40) mj_q209_3 mj_r209_4
theorem mj_r209_2 : mj_cz mj_m209 ((mj_rw mj_m209).drop 80) 80 = true := mj_pc_1 (y := mj_m209) (a := 80) (n := 40) mj_q209_2 mj_r209_3
theorem mj_r209_1 : mj_cz mj_m209 ((mj_rw mj_m209).drop 40) 40 = true := mj_pc_1 (y := mj_m209) (a := 40) (n := 40) mj_q209_1 mj_r209_2
theorem mj_r209_0 : mj_cz mj_m209 ((mj_rw mj_m209).drop 0) 0 = true := mj_pc_1 (y := mj_m209) (a := 0) (n := 40) mj_q209_0 mj_r209_1
theorem mj_q209 : mj_cr mj_m209 = true := mj_pc_0 mj_r209_0
set_option maxRecDepth 100000 in
set_option maxHeartbeats 8000000 in
theorem mj_q252_0 : mj_pc mj_m252 0 40 = true := by decide +kernel
set_option maxRecDepth 100000 in
set_option maxHeartbeats 8000000 in
theorem mj_q252_1 : mj_pc mj_m252 40 40 = true := by decide +kernel
set_option maxRecDepth 100000 in
theorem mj_q252_e : mj_cz mj_m252 ((mj_rw mj_m252).drop 80) 80 = true := by decide +kernel
theorem mj_r252_1 : mj_cz mj_m252 ((mj_rw mj_m252).drop 40) 40 = true := mj_pc_1 (y := mj_m252) (a := 40) (n := 40) mj_q252_1 mj_q252_e
theorem mj_r252_0 : mj_cz mj_m252 ((mj_rw mj_m252).drop 0) 0 = true := mj_pc_1 (y := mj_m252) (a := 0) (n := 40) mj_q252_0 mj_r252_1
theorem mj_q252 : mj_cr mj_m252 = true := mj_pc_0 mj_r252_0
set_option maxRecDepth 100000 in
set_option maxHeartbeats 8000000 in
theorem mj_q263_0 : mj_pc mj_m263 0 40 = true := by decide +kernel
set_option maxRecDepth 100000 in
set_option maxHeartbeats 8000000 in
theorem mj_q263_1 : mj_pc mj_m263 40 40 = true := by decide +kernel
set_option maxRecDepth 100000 in
theorem mj_q263_e : mj_cz mj_m263 ((mj_rw mj_m263).drop 80) 80 = true := by decide +kernel
theorem mj_r263_1 : mj_cz mj_m263 ((mj_rw mj_m263).drop 40) 40 = true := mj_pc_1 (y := mj_m263) (a := 40) (n := 40) mj_q263_1 mj_q263_e
theorem mj_r263_0 : mj_cz mj_m263 ((mj_rw mj_m263).drop 0) 0 = true := mj_pc_1 (y := mj_m263) (a := 0) (n := 40) mj_q263_0 mj_r263_1
theorem mj_q263 : mj_cr mj_m263 = true := mj_pc_0 mj_r263_0
set_option maxRecDepth 100000 in
set_option maxHeartbeats 8000000 in
theorem mj_q291 : mj_cr mj_m291 = true := by decide +kernel
set_option maxRecDepth 100000 in
set_option maxHeartbeats 8000000 in
theorem mj_q292_0 : mj_pc mj_m292 0 40 = true := by decide +kernel
set_option maxRecDepth 100000 in
set_option maxHeartbeats 8000000 in
theorem mj_q292_1 : mj_pc mj_m292 40 40 = true := by decide +kernel
set_option maxRecDepth 100000 in
set_option maxHeartbeats 8000000 in
theorem mj_q292_2 : mj_pc mj_m292 80 40 = true := by decide +kernel
set_option maxRecDepth 100000 in
set_option maxHeartbeats 8000000 in
theorem mj_q292_3 : mj_pc mj_m292 120 40 = true := by decide +kernel
set_option maxRecDepth 100000 in
set_option maxHeartbeats 8000000 in
theorem mj_q292_4 : mj_pc mj_m292 160 40 = true := by decide +kernel
set_option maxRecDepth 100000 in
set_option maxHeartbeats 8000000 in
theorem mj_q292_5 : mj_pc mj_m292 200 40 = true := by decide +kernel
set_option maxRecDepth 100000 in
set_option maxHeartbeats 8000000 in
theorem mj_q292_6 : mj_pc mj_m292 240 40 = true := by decide +kernel
set_option maxRecDepth 100000 in
set_option maxHeartbeats 8000000 in
theorem mj_q292_7 : mj_pc mj_m292 280 40 = true := by decide +kernel
set_option maxRecDepth 100000 in
set_option maxHeartbeats 8000000 in
theorem mj_q292_8 : mj_pc mj_m292 320 40 = true := by decide +kernel
set_option maxRecDepth 100000 in
theorem mj_q292_e : mj_cz mj_m292 ((mj_rw mj_m292).drop 360) 360 = true := by decide +kernel
theorem mj_r292_8 : mj_cz mj_m292 ((mj_rw mj_m292).drop 320) 320 = true := mj_pc_1 (y := mj_m292) (a := 320) (n := 40) mj_q292_8 mj_q292_e
theorem mj_r292_7 : mj_cz mj_m292 ((mj_rw mj_m292).drop 280) 280 = true := mj_pc_1 (y := mj_m292) (a := 280) (n := 40) mj_q292_7 mj_r292_8
theorem mj_r292_6 : mj_cz mj_m292 ((mj_rw mj_m292).drop 240) 240 = true := mj_pc_1 (y := mj_m292) (a := 240) (n := 40) mj_q292_6 mj_r292_7
theorem mj_r292_5 : mj_cz mj_m292 ((mj_rw mj_m292).drop 200) 200 = true := mj_pc_1 (y := mj_m292) (a := 200) (n := 40) mj_q292_5 mj_r292_6
theorem mj_r292_4 : mj_cz mj_m292 ((mj_rw mj_m292).drop 160) 160 = true := mj_pc_1 (y := mj_m292) (a := 160) (n := 40) mj_q292_4 mj_r292_5
theorem mj_r292_3 : mj_cz mj_m292 ((mj_rw mj_m292).drop 120) 120 = true := mj_pc_1 (y := mj_m292) (a := 120) (n := 40) mj_q292_3 mj_r292_4
theorem mj_r292_2 : mj_cz mj_m292 ((mj_rw mj_m292).drop 80) 80 = true := mj_pc_1 (y := mj_m292) (a := 80) (n := 40) mj_q292_2 mj_r292_3
theorem mj_r292_1 : mj_cz mj_m292 ((mj_rw mj_m292).drop 40) 40 = true := mj_pc_1 (y := mj_m292) (a := 40) (n := 40) mj_q292_1 mj_r292_2
theorem mj_r292_0 : mj_cz mj_m292 ((mj_rw mj_m292).drop 0) 0 = true := mj_pc_1 (y := mj_m292) (a := 0) (n := 40) mj_q292_0 mj_r292_1
theorem mj_q292 : mj_cr mj_m292 = true := mj_pc_0 mj_r292_0
set_option maxRecDepth 100000 in
set_option maxHeartbeats 8000000 in
theorem mj_q344_0 : mj_pc mj_m344 0 40 = true := by decide +kernel
set_option maxRecDepth 100000 in
set_option maxHeartbeats 8000000 in
theorem mj_q344_1 : mj_pc mj_m344 40 40 = true := by decide +kernel
set_option maxRecDepth 100000 in
theorem mj_q344_e : mj_cz mj_m344 ((mj_rw mj_m344).drop 80) 80 = true := by decide +kernel
theorem mj_r344_1 : mj_cz mj_m344 ((mj_rw mj_m344).drop 40) 40 = true := mj_pc_1 (y := mj_m344) (a := 40) (n := 40) mj_q344_1 mj_q344_e
theorem mj_r344_0 : mj_cz mj_m344 ((mj_rw mj_m344).drop 0) 0 = true := mj_pc_1 (y := mj_m344) (a := 0) (n := 40) mj_q344_0 mj_r344_1
theorem mj_q344 : mj_cr mj_m344 = true := mj_pc_0 mj_r344_0
set_option maxRecDepth 100000 in
set_option maxHeartbeats 8000000 in
theorem mj_q378 : mj_cr mj_m378 = true := by decide +kernel
end
