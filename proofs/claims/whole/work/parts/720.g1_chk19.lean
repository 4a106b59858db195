/- g1.chk19 -/
section
set_option maxRecDepth 512
set_option maxRecDepth 100000 in
set_option maxHeartbeats 8000000 in
theorem mj_q5_0 : mj_pc mj_m5 0 40 = true := by decide +kernel
set_option maxRecDepth 100000 in
set_option maxHeartbeats 8000000 in
theorem mj_q5_1 : mj_pc mj_m5 40 40 = true := by decide +kernel
set_option maxRecDepth 100000 in
theorem mj_q5_e : mj_cz mj_m5 ((mj_rw mj_m5).drop 80) 80 = true := by decide +kernel
theorem mj_r5_1 : mj_cz mj_m5 ((mj_rw mj_m5).drop 40) 40 = true := mj_pc_1 (y := mj_m5) (a := 40) (n := 40) mj_q5_1 mj_q5_e
theorem mj_r5_0 : mj_cz mj_m5 ((mj_rw mj_m5).drop 0) 0 = true := mj_pc_1 (y := mj_m5) (a := 0) (n := 40) mj_q5_0 mj_r5_1
theorem mj_q5 : mj_cr mj_m5 = true := mj_pc_0 mj_r5_0
set_option maxRecDepth 100000 in
set_option maxHeartbeats 8000000 in
theorem mj_q12 : mj_cr mj_m12 = true := by decide +kernel
set_option maxRecDepth 100000 in
set_option maxHeartbeats 8000000 in
theorem mj_q15 : mj_cr mj_m15 = true := by decide +kernel
set_option maxRecDepth 100000 in
set_option maxHeartbeats 8000000 in
theorem mj_q16 : mj_cr mj_m16 = true := by decide +kernel
set_option maxRecDepth 100000 in
set_option maxHeartbeats 8000000 in
theorem mj_q72 : mj_cr mj_m72 = true := by decide +kernel
set_option maxRecDepth 100000 in
set_option maxHeartbeats 8000000 in
theorem mj_q73 : mj_cr mj_m73 = true := by decide +kernel
set_option maxRecDepth 100000 in
set_option maxHeartbeats 8000000 in
theorem mj_q107_0 : mj_pc mj_m107 0 40 = true := by decide +kernel
set_option maxRecDepth 100000 in
set_option maxHeartbeats 8000000 in
theorem mj_q107_1 : mj_pc mj_m107 40 40 = true := by decide +kernel
set_option maxRecDepth 100000 in
theorem mj_q107_e : mj_cz mj_m107 ((mj_rw mj_m107).drop 80) 80 = true := by decide +kernel
theorem mj_r107_1 : mj_cz mj_m107 ((mj_rw mj_m107).drop 40) 40 = true := mj_pc_1 (y := mj_m107) (a := 40) (n := 40) mj_q107_1 mj_q107_e
theorem mj_r107_0 : mj_cz mj_m107 ((mj_rw mj_m107).drop 0) 0 = true := mj_pc_1 (y := mj_m107) (a := 0) (n := 40) mj_q107_0 mj_r107_1
theorem mj_q107 : mj_cr mj_m107 = true := mj_pc_0 mj_r107_0
set_option maxRecDepth 100000 in
set_option maxHeartbeats 8000000 in
theorem mj_q136_0 : mj_pc mj_m136 0 40 = true := by decide +kernel
set_option maxRecDepth 100000 in
set_option maxHeartbeats 8000000 in
theorem mj_q136_1 : mj_pc mj_m136 40 40 = true := by decide +kernel
set_option maxRecDepth 100000 in
set_option maxHeartbeats 8000000 in
theorem mj_q136_2 : mj_pc mj_m136 80 40 = true := by decide +kernel
set_option maxRecDepth 100000 in
set_option maxHeartbeats 8000000 in
theorem mj_q136_3 : mj_pc mj_m136 120 40 = true := by decide +kernel
set_option maxRecDepth 100000 in
set_option maxHeartbeats 8000000 in
theorem mj_q136_4 : mj_pc mj_m136 160 40 = true := by decide +kernel
set_option maxRecDepth 100000 in
set_option maxHeartbeats 8000000 in
theorem mj_q136_5 : mj_pc mj_m136 200 40 = true := by decide +kernel
set_option maxRecDepth 100000 in
theorem mj_q136_e : mj_cz mj_m136 ((mj_rw mj_m136).drop 240) 240 = true := by decide +kernel
theorem mj_r136_5 : mj_cz mj_m136 ((mj_rw mj_m136).drop 200) 200 = true := mj_pc_1 (y := mj_m136) (a := 200) (n := 40) mj_q136_5 mj_q136_e
theorem mj_r136_4 : mj_cz mj_m136 ((mj_rw mj_m136).drop 160) 160 = true := mj_pc_1 (y := mj_m136) (a := 160) (n := 40) mj_q136_4 mj_r136_5
theorem mj_r136_3 : mj_cz mj_m136 ((mj_rw mj_m136).drop 120) 120 = true := mj_pc_1 (y := mj_m136) (a := 120) (n := 40) mj_q136_3 mj_r136_4
theorem mj_r136_2 : mj_cz mj_m136 ((mj_rw mj_m136).drop 80) 80 = true := mj_pc_1 (y := mj_m136) (a := 80) (n := 40) mj_q136_2 mj_r136_3
theorem mj_r136_1 : mj_cz mj_m136 ((mj_rw mj_m136).drop 40) 40 = true := mj_pc_1 (y := mj_m136) (a := 40) (n := 40) mj_q136_1 mj_r136_2
theorem mj_r136_0 : mj_cz mj_m136 ((mj_rw mj_m136).drop 0) 0 = true := mj_pc_1 (y := mj_m136) (a := 0) (n := 40) mj_q136_0 mj_r136_1
theorem mj_q136 : mj_cr mj_m136 = true := mj_pc_0 mj_r136_0
set_option maxRecDepth 100000 in
set_option maxHeartbeats 8000000 in
theorem mj_q148 : mj_cr mj_m148 = true := by decide +kernel
set_option maxRecDepth 100000 in
set_option maxHeartbeats 8000000 in
theorem mj_q164_0 : mj_pc mj_m164 0 40 = true := by decide +kernel
set_option maxRecDepth 100000 in
set_option maxHeartbeats 8000000 in
theorem mj_q164_1 : mj_pc mj_m164 40 40 = true := by decide +kernel
set_option maxRecDepth 100000 in
theorem mj_q164_e : mj_cz mj_m164 ((mj_rw mj_m164).drop 80) 80 = true := by decide +kernel
theorem mj_r164_1 : mj_cz mj_m164 ((mj_rw mj_m164).drop 40) 40 = true := mj_pc_1 (y := mj_m164) (a := 40) (n := 40) mj_q164_1 mj_q164_e
theorem mj_r164_0 : mj_cz mj_m164 ((mj_rw mj_m164).drop 0) 0 = true := mj_pc_1 (y := mj_m164) (a := 0) (n := 40) mj_q164_0 mj_r164_1
theorem mj_q164 : mj_cr mj_m164 = true := mj_pc_0 mj_r164_0
set_option maxRecDepth 100000 in
set_option maxHeartbeats 8000000 in
theorem mj_q172_0 : mj_pc mj_m172 0 40 = true := by decide +kernel
set_option maxRecDepth 100000 in
set_option maxHeartbeats 8000000 in
theorem mj_q172_1 : mj_pc mj_m172 40 40 = true := by decide +kernel
set_option maxRecDepth 100000 in
set_option maxHeartbeats 8000000 in
theorem mj_q172_2 : mj_pc mj_m172 80 40 = true := by decide +kernel
set_option maxRecDepth 100000 in
theorem mj_q172_e : mj_cz mj_m172 ((mj_rw mj_m172).drop 120) 120 = true := by decide +kernel
theorem mj_r172_2 : mj_cz mj_m172 ((mj_rw mj_m172).drop 80) 80 = true := mj_pc_1 (y := mj_m172) (a := 80) (n := 40) mj_q172_2 mj_q172_e
theorem mj_r172_1 : mj_cz mj_m172 ((mj_rw mj_m172).drop 40) 40 = true := mj_pc_1 (y := mj_m172) (a := 40) (n := 40) mj_q172_1 mj_r172_2
theorem mj_r172_0 : mj_cz mj_m172 ((mj_rw mj_m172).drop 0) 0 = true := mj_pc_1 (y := mj_m172) (a := 0) (n := 40) mj_q172_0 mj_r172_1
theorem mj_q172 : mj_cr mj_m172 = true := mj_pc_0 mj_r172_0
set_option maxRecDepth 100000 in
set_option maxHeartbeats 8000000 in
theorem mj_q207_0 : mj_pc mj_m207 0 40 = true := by decide +kernel
set_option maxRecDepth 100000 in
set_option maxHeartbeats 8000000 in
theorem mj_q207_1 : mj_pc mj_m207 40 40 = true := by decide +kernel
set_option maxRecDepth 100000 in
theorem mj_q207_e : mj_cz mj_m207 ((mj_rw mj_m207).drop 80) 80 = true := by decide +kernel
theorem mj_r207_1 : mj_cz mj_m207 ((mj_rw mj_m207).drop 40) 40 = true := mj_pc_1 (y := mj_m207) (a := 40) (n := 40) mj_q207_1 mj_q207_e
theorem mj_r207_0 : mj_cz mj_m207 ((mj_rw mj_m207).drop 0) 0 = true := mj_pc_1 (y := mj_m207) (a := 0) (n := 40) mj_q207_0 mj_r207_1
theorem mj_q207 : mj_cr mj_m207 = true := mj_pc_0 mj_r207_0
set_option maxRecDepth 100000 in
set_option maxHeartbeats 8000000 in
theorem mj_q208_0 : mj_pc mj_m208 0 40 = true := by decide +kernel
set_option maxRecDepth 100000 in
set_option maxHeartbeats 8000000 in
theorem mj_q208_1 : mj_pc mj_m208 40 40 = true := by decide +kernel
set_option maxRecDepth 100000 in
set_option maxHeartbeats 8000000 in
theorem mj_q208_2 : mj_pc mj_m208 80 40 = true := by decide +kernel
set_option maxRecDepth 100000 in
set_option maxHeartbeats 8000000 in
theorem mj_q208_3 : mj_pc mj_m208 120 40 = true := by decide +kernel
set_option maxRecDepth 100000 in
set_option maxHeartbeats 8000000 in
theorem mj_q208_4 : mj_pc mj_m208 160 40 = true := by decide +kernel
set_option maxRecDepth 100000 in
set_option maxHeartbeats 8000000 in
theorem mj_q208_5 : mj_pc mj_m208 200 40 = true := by decide +kernel
set_option maxRecDepth 100000 in
set_option maxHeartbeats 8000000 in
theorem mj_q208_6 : mj_pc mj_m208 240 40 = true := by decide +kernel
set_option maxRecDepth 100000 in
theorem mj_q208_e : mj_cz mj_m208 ((mj_rw mj_m208).drop 280) 280 = true := by decide +kernel
theorem mj_r208_6 : mj_cz mj_m208 ((mj_rw mj_m208).drop 240) 240 = true := mj_pc_1 (y := mj_m208) (a := 240) (n := 40) mj_q208_6 mj_q208_e
theorem mj_r208_5 : mj_cz mj_m208 ((mj_rw mj_m208).drop 200) 200 = true := mj_pc_1 (y := mj_m208) (a := 200) (n := 40) mj_q208_5 mj_r208_6
theorem mj_r208_4 : mj_cz mj_m208 ((mj_rw mj_m208).drop 160) 160 = true := mj_pc_1 (y := mj_m208) (a := 160) (n := 40) mj_q208_4 mj_r208_5
theorem mj_r208_3 : mj_cz mj_m208 ((mj_rw mj_m208).drop 120) 120 = true := mj_pc_1 (y := mj_m208) (a := 120) (n := 40) mj_q208_3 mj_r208_4
theorem mj_r208_2 : mj_cz mj_m208 ((mj_rw mj_m208).drop 80) 80 = true := mj_pc_1 (y := mj_m208) (a := 80) (n := 40) mj_q208_2 mj_r208_3
theorem mj_r208_1 : mj_cz mj_m208 ((mj_rw mj_m208).drop 40) 40 = true := mj_pc_1 (y := mj_m208) (a := 40) (n := 40) mj_q208_1 mj_r208_2
theorem mj_r208_0 : mj_cz mj_m208 ((mj_rw mj_m208).drop 0) 0 = true := mj_pc_1 (y := mj_m208) (a := 0) (n := 40) mj_q208_0 mj_r208_1
theorem mj_q208 : mj_cr mj_m208 = true := mj_pc_0 mj_r208_0
set_option maxRecDepth 100000 in
set_option maxHeartbeats 8000000 in
theorem mj_q219_0 : mj_pc mj_m219 0 40 = true := by decide +kernel
set_option maxRecDepth 100000 in
set_option maxHeartbeats 8000000 in
theorem mj_q219_1 : mj_pc mj_m219 40 40 = true := by decide +kernel
set_option maxRecDepth 100000 in
theorem mj_q219_e : mj_cz mj_m219 ((mj_rw mj_m219).drop 80) 80 = true := by decide +kernel
theorem mj_r219_1 : mj_cz mj_m219 ((mj_rw mj_m219).drop 40) 40 = true := mj_pc_1 (y := mj_m219) (a := 40) (n := 40) mj_q219_1 mj_q219_e
theorem mj_r219_0 : mj_cz mj_m219 ((mj_rw mj_m219).drop 0) 0 = true := mj_pc_1 (y := mj_m219) (a := 0) (n := 40) mj_q219_0 mj_r219_1
theorem mj_q219 : mj_cr mj_m219 = true := mj_pc_0 mj_r219_0
set_option maxRecDepth 100000 in
set_option maxHeartbeats 8000000 in
theorem mj_q233 : mj_cr mj_m233 = true := by decide +kernel
set_option maxRecDepth 100000 in
set_option maxHeartbeats 8000000 in
theorem mj_q269 : mj_cr mj_m269 = true := by decide +kernel
set_option maxRecDepth 100000 in
set_option maxHeartbeats 8000000 in
theorem mj_q277_0 : mj_pc mj_m277 0 40 = true := by decide +kernel
set_option maxRecDepth 100000 in
set_option maxHeartbeats 8000000 in
theorem mj_q277_1 : mj_pc mj_m277 40 40 = true := by decide +kernel
set_option maxRecDepth 100000 in
set_option maxHeartbeats 8000000 in
theorem mj_q277_2 : mj_pc mj_m277 80 40 = true := by decide +kernel
set_option maxRecDepth 100000 in
set_option maxHeartbeats 8000000 in
theorem mj_q277_3 : mj_pc mj_m277 120 40 = true := by decide +kernel
set_option maxRecDepth 100000 in
set_option maxHeartbeats 8000000 in
theorem mj_q277_4 : mj_pc mj_m277 160 40 = true := by decide +kernel
set_option maxRecDepth 100000 in
theorem mj_q277_e : mj_cz mj_m277 ((mj_rw mj_m277).drop 200) 200 = true := by decide +kernel
theorem mj_r277_4 : mj_cz mj_m277 ((mj_rw mj_m277).drop 160) 160 = true := mj_pc_1 (y := mj_m277) (a := 160) (n := 40) mj_q277_4 mj_q277_e
theorem mj_r277_3 : mj_cz mj_m277 ((mj_rw mj_m277).drop 120) 120 = true := mj_pc_1 (y := mj_m277) (a := 120) (n := 40) mj_q277_3 mj_r277_4
theorem mj_r277_2 : mj_cz mj_m277 ((mj_rw mj_m277).drop 80) 80 = true := mj_pc_1 (y := mj_m277) (a := 80) (n := 40) mj_q277_2 mj_r277_3
theorem mj_r277_1 : mj_cz mj_m277 ((mj_rw mj_m277).drop 40) 40 = true := mj_pc_1 (y := mj_m277) (a := 40) (n := 40) mj_q277_1 mj_r277_2
theorem mj_r277_0 : mj_cz mj_m277 ((mj_rw mj_m277).drop 0) 0 = true := mj_pc_1 (y := mj_m277) (a := 0) (n := 40) mj_q277_0 mj_r277_1
theorem mj_q277 : mj_cr mj_m277 = true := mj_pc_0 mj_r277_0
set_option maxRecDepth 100000 in
set_option maxHeartbeats 8000000 in
theorem mj_q305_0 : mj_pc mj_m305 0 40 = true := by decide +kernel
set_option maxRecDepth 100000 in
set_option maxHeartbeats 8000000 in
theorem mj_q305_1 : mj_pc mj_m305 40 40 = true := by decide +kernel
set_option maxRecDepth 100000 in
set_option maxHeartbeats 8000000 in
theorem mj_q305_2 : mj_pc mj_m305 80 40 = true := by decide +kernel
set_option maxRecDepth 100000 in
theorem mj_q305_e : mj_cz mj_m305 ((mj_rw mj_m305).drop 120) 120 = true := by decide +kernel
theorem mj_r305_2 : mj_cz mj_m305 ((mj_rw mj_m305).drop 80) 80 = true := mj_pc_1 (y := mj_m305) (a := 80) (n := 40) mj_q305_2 mj_q305_e
theorem mj_r305_1 : mj_cz mj_m305 ((mj_rw mj_m305).drop 40) 40 = true := mj_pc_1 (y := mj_m305) (a := 40) (n := 40) mj_q305_1 mj_r305_2
theorem mj_r305_0 : mj_cz mj_m305 ((mj_rw mj_m305).drop 0) 0 = true := mj_pc_1 (y := mj_m305) (a := 0) (n := 40) mj_q305_0 mj_r305_1
theorem mj_q305 : mj_cr mj_m305 = true := mj_pc_0 mj_r305_0
set_option maxRecDepth 100000 in
set_option maxHeartbeats 8000000 in
theorem mj_q328_0 : mj_pc mj_m328 0 40 = true := by decide +kernel
set_option maxRecDepth 100000 in
set_option maxHeartbeats 8000000 in
theorem mj_q328_1 : mj_pc mj_m328 40 40 = true := by decide +kernel
set_option maxRecDepth 100000 in
set_option maxHeartbeats 8000000 in
theorem mj_q328_2 : mj_pc mj_m328 80 40 = true := by decide +kernel
set_option maxRecDepth 100000 in
set_option maxHeartbeats 8000000 in
theorem mj_q328_3 : mj_pc mj_m328 120 40 = true := by decide +kernel
set_option maxRecDepth 100000 in
theorem mj_q328_e : mj_cz mj_m328 ((mj_rw mj_m328).drop 160) 160 = true := by decide +kernel
theorem mj_r328_3 : mj_cz mj_m328 ((mj_rw mj_m328).drop 120) 120 = true := mj_pc_1 (y := mj_m328) (a := 120) (n := 40) mj_q328_3 mj_q328_e
theorem mj_r328_2 : mj_cz mj_m328 ((mj_rw mj_m328).drop 80) 80 = true := mj_pc_1 (y := mj_m328) (a := 80) (n := 40) mj_q328_2 mj_r328_3
theorem mj_r328_1 : mj_cz mj_m328 ((mj_rw mj_m328).drop 40) 40 = true := mj_pc_1 (y := mj_m328) (a := 40) (n := 40) mj_q328_1 mj_r328_2
theorem mj_r328_0 : mj_cz mj_m328 ((mj_rw mj_m328).drop 0) 0 = true := mj_pc_1 (y := mj_m328) (a := 0) (n := 40) mj_q328_0 mj_r328_1
theorem mj_q328 : mj_cr mj_m328 = true := mj_pc_0 mj_r328_0
end
