/- g1.chk14 -/
section
set_option maxRecDepth 512
set_option maxRecDepth 100000 in
set_option maxHeartbeats 8000000 in
theorem mj_q0_0 : mj_pc mj_m0 0 40 = true := by decide +kernel
set_option maxRecDepth 100000 in
set_option maxHeartbeats 8000000 in
theorem mj_q0_1 : mj_pc mj_m0 40 40 = true := by decide +kernel
set_option maxRecDepth 100000 in
set_option maxHeartbeats 8000000 in
theorem mj_q0_2 : mj_pc mj_m0 80 40 = true := by decide +kernel
set_option maxRecDepth 100000 in
theorem mj_q0_e : mj_cz mj_m0 ((mj_rw mj_m0).drop 120) 120 = true := by decide +kernel
theorem mj_r0_2 : mj_cz mj_m0 ((mj_rw mj_m0).drop 80) 80 = true := mj_pc_1 (y := mj_m0) (a := 80) (n := 40) mj_q0_2 mj_q0_e
theorem mj_r0_1 : mj_cz mj_m0 ((mj_rw mj_m0).drop 40) 40 = true := mj_pc_1 (y := mj_m0) (a := 40) (n := 40) mj_q0_1 mj_r0_2
theorem mj_r0_0 : mj_cz mj_m0 ((mj_rw mj_m0).drop 0) 0 = true := mj_pc_1 (y := mj_m0) (a := 0) (n := 40) mj_q0_0 mj_r0_1
theorem mj_q0 : mj_cr mj_m0 = true := mj_pc_0 mj_r0_0
set_option maxRecDepth 100000 in
set_option maxHeartbeats 8000000 in
theorem mj_q9 : mj_cr mj_m9 = true := by decide +kernel
set_option maxRecDepth 100000 in
set_option maxHeartbeats 8000000 in
theorem mj_q10_0 : mj_pc mj_m10 0 40 = true := by decide +kernel
set_option maxRecDepth 100000 in
set_option maxHeartbeats 8000000 in
theorem mj_q10_1 : mj_pc mj_m10 40 40 = true := by decide +kernel
set_option maxRecDepth 100000 in
theorem mj_q10_e : mj_cz mj_m10 ((mj_rw mj_m10).drop 80) 80 = true := by decide +kernel
theorem mj_r10_1 : mj_cz mj_m10 ((mj_rw mj_m10).drop 40) 40 = true := mj_pc_1 (y := mj_m10) (a := 40) (n := 40) mj_q10_1 mj_q10_e
theorem mj_r10_0 : mj_cz mj_m10 ((mj_rw mj_m10).drop 0) 0 = true := mj_pc_1 (y := mj_m10) (a := 0) (n := 40) mj_q10_0 mj_r10_1
theorem mj_q10 : mj_cr mj_m10 = true := mj_pc_0 mj_r10_0
set_option maxRecDepth 100000 in
set_option maxHeartbeats 8000000 in
theorem mj_q84 : mj_cr mj_m84 = true := by decide +kernel
set_option maxRecDepth 100000 in
set_option maxHeartbeats 8000000 in
theorem mj_q120 : mj_cr mj_m120 = true := by decide +kernel
set_option maxRecDepth 100000 in
set_option maxHeartbeats 8000000 in
theorem mj_q163_0 : mj_pc mj_m163 0 40 = true := by decide +kernel
set_option maxRecDepth 100000 in
set_option maxHeartbeats 8000000 in
theorem mj_q163_1 : mj_pc mj_m163 40 40 = true := by decide +kernel
set_option maxRecDepth 100000 in
set_option maxHeartbeats 8000000 in
theorem mj_q163_2 : mj_pc mj_m163 80 40 = true := by decide +kernel
set_option maxRecDepth 100000 in
theorem mj_q163_e : mj_cz mj_m163 ((mj_rw mj_m163).drop 120) 120 = true := by decide +kernel
theorem mj_r163_2 : mj_cz mj_m163 ((mj_rw mj_m163).drop 80) 80 = true := mj_pc_1 (y := mj_m163) (a := 80) (n := 40) mj_q163_2 mj_q163_e
theorem mj_r163_1 : mj_cz mj_m163 ((mj_rw mj_m163).drop 40) 40 = true := mj_pc_1 (y := mj_m163) (a := 40) (n := 40) mj_q163_1 mj_r163_2
theorem mj_r163_0 : mj_cz mj_m163 ((mj_rw mj_m163).drop 0) 0 = true := mj_pc_1 (y := mj_m163) (a := 0) (n := 40) mj_q163_0 mj_r163_1
theorem mj_q163 : mj_cr mj_m163 = true := mj_pc_0 mj_r163_0
set_option maxRecDepth 100000 in
set_option maxHeartbeats 8000000 in
theorem mj_q189_0 : mj_pc mj_m189 0 40 = true := by decide +kernel
set_option maxRecDepth 100000 in
set_option maxHeartbeats 8000000 in
theorem mj_q189_1 : mj_pc mj_m189 40 40 = true := by decide +kernel
set_option maxRecDepth 100000 in
set_option maxHeartbeats 8000000 in
theorem mj_q189_2 : mj_pc mj_m189 80 40 = true := by decide +kernel
set_option maxRecDepth 100000 in
set_option maxHeartbeats 8000000 in
theorem mj_q189_3 : mj_pc mj_m189 120 40 = true := by decide +kernel
set_option maxRecDepth 100000 in
set_option maxHeartbeats 8000000 in
theorem mj_q189_4 : mj_pc mj_m189 160 40 = true := by decide +kernel
set_option maxRecDepth 100000 in
set_option maxHeartbeats 8000000 in
theorem mj_q189_5 : mj_pc mj_m189 200 40 = true := by decide +kernel
set_option maxRecDepth 100000 in
set_option maxHeartbeats 8000000 in
theorem mj_q189_6 : mj_pc mj_m189 240 40 = true := by decide +kernel
set_option maxRecDepth 100000 in
set_option maxHeartbeats 8000000 in
theorem mj_q189_7 : mj_pc mj_m189 280 40 = true := by decide +kernel
set_option maxRecDepth 100000 in
set_option maxHeartbeats 8000000 in
theorem mj_q189_8 : mj_pc mj_m189 320 40 = true := by decide +kernel
set_option maxRecDepth 100000 in
theorem mj_q189_e : mj_cz mj_m189 ((mj_rw mj_m189).drop 360) 360 = true := by decide +kernel
theorem mj_r189_8 : mj_cz mj_m189 ((mj_rw mj_m189).drop 320) 320 = true := mj_pc_1 (y := mj_m189) (a := 320) (n := 40) mj_q189_8 mj_q189_e
theorem mj_r189_7 : mj_cz mj_m189 ((mj_rw mj_m189).drop 280) 280 = true := mj_pc_1 (y := mj_m189) (a := 280) (n := 40) mj_q189_7 mj_r189_8
theorem mj_r189_6 : mj_cz mj_m189 ((mj_rw mj_m189).drop 240) 240 = true := mj_pc_1 (y := mj_m189) (a := 240) (n := 40) mj_q189_6 mj_r189_7
theorem mj_r189_5 : mj_cz mj_m189 ((mj_rw mj_m189).drop 200) 200 = true := mj_pc_1 (y := mj_m189) (a := 200) (n := 40) mj_q189_5 mj_r189_6
theorem mj_r189_4 : mj_cz mj_m189 ((mj_rw mj_m189).drop 160) 160 = true := mj_pc_1 (y := mj_m189) (a := 160) (n := 40) mj_q189_4 mj_r189_5
theorem mj_r189_3 : mj_cz mj_m189 ((mj_rw mj_m189).drop 120) 120 = true := mj_pc_1 (y := mj_m189) (a := 120) (n := 40) mj_q189_3 mj_r189_4
theorem mj_r189_2 : mj_cz mj_m189 ((mj_rw mj_m189).drop 80) 80 = true := mj_pc_1 (y := mj_m189) (a := 80) (n := 40) mj_q189_2 mj_r189_3
theorem mj_r189_1 : mj_cz mj_m189 ((mj_rw mj_m189).drop 40) 40 = true := mj_pc_1 (y := mj_m189) (a := 40) (n := 40) mj_q189_1 mj_r189_2
theorem mj_r189_0 : mj_cz mj_m189 ((mj_rw mj_m189).drop 0) 0 = true := mj_pc_1 (y := mj_m189) (a := 0) (n := 40) mj_q189_0 mj_r189_1
theorem mj_q189 : mj_cr mj_m189 = true := mj_pc_0 mj_r189_0
set_option maxRecDepth 100000 in
set_option maxHeartbeats 8000000 in
theorem mj_q192_0 : mj_pc mj_m192 0 40 = true := by decide +kernel
set_option maxRecDepth 100000 in
set_option maxHeartbeats 8000000 in
theorem mj_q192_1 : mj_pc mj_m192 40 40 = true := by decide +kernel
set_option maxRecDepth 100000 in
theorem mj_q192_e : mj_cz mj_m192 ((mj_rw mj_m192).drop 80) 80 = true := by decide +kernel
theorem mj_r192_1 : mj_cz mj_m192 ((mj_rw mj_m192).drop 40) 40 = true := mj_pc_1 (y := mj_m192) (a := 40) (n := 40) mj_q192_1 mj_q192_e
theorem mj_r192_0 : mj_cz mj_m192 ((mj_rw mj_m192).drop 0) 0 = true := mj_pc_1 (y := mj_m192) (a := 0) (n := 40) mj_q192_0 mj_r192_1
theorem mj_q192 : mj_cr mj_m192 = true := mj_pc_0 mj_r192_0
set_option maxRecDepth 100000 in
set_option maxHeartbeats 8000000 in
theorem mj_q194 : mj_cr mj_m194 = true := by decide +kernel
set_option maxRecDepth 100000 in
set_option maxHeartbeats 8000000 in
theorem mj_q206_0 : mj_pc mj_m206 0 40 = true := by decide +kernel
set_option maxRecDepth 100000 in
set_option maxHeartbeats 8000000 in
theorem mj_q206_1 : mj_pc mj_m206 40 40 = true := by decide +kernel
set_option maxRecDepth 100000 in
theorem mj_q206_e : mj_cz mj_m206 ((mj_rw mj_m206).drop 80) 80 = true := by decide +kernel
theorem mj_r206_1 : mj_cz mj_m206 ((mj_rw mj_m206).drop 40) 40 = true := mj_pc_1 (y := mj_m206) (a := 40) (n := 40) mj_q206_1 mj_q206_e
theorem mj_r206_0 : mj_cz mj_m206 ((mj_rw mj_m206).drop 0) 0 = true := mj_pc_1 (y := mj_m206) (a := 0) (n := 40) mj_q206_0 mj_r206_1
theorem mj_q206 : mj_cr mj_m206 = true := mj_pc_0 mj_r206_0
set_option maxRecDepth 100000 in
set_option maxHeartbeats 8000000 in
theorem mj_q213 : mj_cr mj_m213 = true := by decide +kernel
set_option maxRecDepth 100000 in
set_option maxHeartbeats 8000000 in
theorem mj_q235_0 : mj_pc mj_m235 0 40 = true := by decide +kernel
set_option maxRecDepth 100000 in
set_option maxHeartbeats 8000000 in
theorem mj_q235_1 : mj_pc mj_m235 40 40 = true := by decide +kernel
set_option maxRecDepth 100000 in
theorem mj_q235_e : mj_cz mj_m235 ((mj_rw mj_m235).drop 80) 80 = true := by decide +kernel
theorem mj_r235_1 : mj_cz mj_m235 ((mj_rw mj_m235).drop 40) 40 = true := mj_pc_1 (y := mj_m235) (a := 40) (n := 40) mj_q235_1 mj_q235_e
theorem mj_r235_0 : mj_cz mj_m235 ((mj_rw mj_m235).drop 0) 0 = true := mj_pc_1 (y := mj_m235) (a := 0) (n := 40) mj_q235_0 mj_r235_1
theorem mj_q235 : mj_cr mj_m235 = true := mj_pc_0 mj_r235_0
set_option maxRecDepth 100000 in
set_option maxHeartbeats 8000000 in
theorem mj_q280 : mj_cr mj_m280 = true := by decide +kernel
set_option maxRecDepth 100000 in
set_option maxHeartbeats 8000000 in
theorem mj_q283 : mj_cr mj_m283 = true := by decide +kernel
set_option maxRecDepth 100000 in
set_option maxHeartbeats 8000000 in
theorem mj_q306_0 : mj_pc mj_m306 0 40 = true := by decide +kernel
set_option maxRecDepth 100000 in
set_option maxHeartbeats 8000000 in
theorem mj_q306_1 : mj_pc mj_m306 40 40 = true := by decide +kernel
set_option maxRecDepth 100000 in
set_option maxHeartbeats 8000000 in
theorem mj_q306_2 : mj_pc mj_m306 80 40 = true := by decide +kernel
set_option maxRecDepth 100000 in
set_option maxHeartbeats 8000000 in
theorem mj_q306_3 : mj_pc mj_m306 120 40 = true := by decide +kernel
set_option maxRecDepth 100000 in
theorem mj_q306_e : mj_cz mj_m306 ((mj_rw mj_m306).drop 160) 160 = true := by decide +kernel
theorem mj_r306_3 : mj_cz mj_m306 ((mj_rw mj_m306).drop 120) 120 = true := mj_pc_1 (y := mj_m306) (a := 120) (n := 40) mj_q306_3 mj_q306_e
theorem mj_r306_2 : mj_cz mj_m306 ((mj_rw mj_m306).drop 80) 80 = true := mj_pc_1 (y := mj_m306) (a := 80) (n := 40) mj_q306_2 mj_r306_3
theorem mj_r306_1 : mj_cz mj_m306 ((mj_rw mj_m306).drop 40) 40 = true := mj_pc_1 (y := mj_m306) (a := 40) (n := 40) mj_q306_1 mj_r306_2
theorem mj_r306_0 : mj_cz mj_m306 ((mj_rw mj_m306).drop 0) 0 = true := mj_pc_1 (y := mj_m306) (a := 0) (n := 40) mj_q306_0 mj_r306_1
theorem mj_q306 : mj_cr mj_m306 = true := mj_pc_0 mj_r306_0
set_option maxRecDepth 100000 in
set_option maxHeartbeats 8000000 in
theorem mj_q308 : mj_cr mj_m308 = true := by decide +kernel
set_option maxRecDepth 100000 in
set_option maxHeartbeats 8000000 in
theorem mj_q314_0 : mj_pc mj_m314 0 40 = true := by decide +kernel
set_option maxRecDepth 100000 in
set_option maxHeartbeats 8000000 in
theorem mj_q314_1 : mj_pc mj_m314 40 40 = true := by decide +kernel
set_option maxRecDepth 100000 in
theorem mj_q314_e : mj_cz mj_m314 ((mj_rw mj_m314).drop 80) 80 = true := by decide +kernel
theorem mj_r314_1 : mj_cz mj_m314 ((mj_rw mj_m314).drop 40) 40 = true := mj_pc_1 (y := mj_m314) (a := 40) (n := 40) mj_q314_1 mj_q314_e
theorem mj_r314_0 : mj_cz mj_m314 ((mj_rw mj_m314).drop 0) 0 = true := mj_pc_1 (y := mj_m314) (a := 0) (n := 40) mj_q314_0 mj_r314_1
theorem mj_q314 : mj_cr mj_m314 = true := mj_pc_0 mj_r314_0
set_option maxRecDepth 100000 in
set_option maxHeartbeats 8000000 in
theorem mj_q323 : mj_cr mj_m323 = true := by decide +kernel
set_option maxRecDepth 100000 in
set_option maxHeartbeats 8000000 in
theorem mj_q333_0 : mj_pc mj_m333 0 40 = true := by decide +kernel
set_option maxRecDepth 100000 in
set_option maxHeartbeats 8000000 in
theorem mj_q333_1 : mj_pc mj_m333 40 40 = true := by decide +kernel
set_option maxRecDepth 100000 in
set_option maxHeartbeats 8000000 in
theorem mj_q333_2 : mj_pc mj_m333 80 40 = true := by decide +kernel
set_option maxRecDepth 100000 in
set_option maxHeartbeats 8000000 in
theorem mj_q333_3 : mj_pc mj_m333 120 40 = true := by decide +kernel
set_option maxRecDepth 100000 in
set_option maxHeartbeats 8000000 in
theorem mj_q333_4 : mj_pc mj_m333 160 40 = true := by decide +kernel
set_option maxRecDepth 100000 in
theorem mj_q333_e : mj_cz mj_m333 ((mj_rw mj_m333).drop 200) 200 = true := by decide +kernel
theorem mj_r333_4 : mj_cz mj_m333 ((mj_rw mj_m333).drop 160) 160 = true := mj_pc_1 (y := mj_m333) (a := 160) (n := 40) mj_q333_4 mj_q333_e
theorem mj_r333_3 : mj_cz mj_m333 ((mj_rw mj_m333).drop 120) 120 = true := mj_pc_1 (y := mj_m333) (a := 120) (n := 40) mj_q333_3 mj_r333_4
theorem mj_r333_2 : mj_cz mj_m333 ((mj_rw mj_m333).drop 80) 80 = true := mj_pc_1 (y := mj_m333) (a := 80) (n := 40) mj_q333_2 mj_r333_3
theorem mj_r333_1 : mj_cz mj_m333 ((mj_rw mj_m333).drop 40) 40 = true := mj_pc_1 (y := mj_m333) (a := 40) (n := 40) mj_q333_1 mj_r333_2
theorem mj_r333_0 : mj_cz mj_m333 ((mj_rw mj_m333).drop 0) 0 = true := mj_pc_1 (y := mj_m333) (a := 0) (n := 40) mj_q333_0 mj_r333_1
theorem mj_q333 : mj_cr mj_m333 = true := mj_pc_0 mj_r333_0
end
