/- g1.chk11 -/
section
set_option maxRecDepth 512
set_option maxRecDepth 100000 in
set_option maxHeartbeats 8000000 in
theorem mj_q20_0 : mj_pc mj_m20 0 40 = true := by decide +kernel
set_option maxRecDepth 100000 in
set_option maxHeartbeats 8000000 in
theorem mj_q20_1 : mj_pc mj_m20 40 40 = true := by decide +kernel
set_option maxRecDepth 100000 in
theorem mj_q20_e : mj_cz mj_m20 ((mj_rw mj_m20).drop 80) 80 = true := by decide +kernel
theorem mj_r20_1 : mj_cz mj_m20 ((mj_rw mj_m20).drop 40) 40 = true := mj_pc_1 (y := mj_m20) (a := 40) (n := 40) mj_q20_1 mj_q20_e
theorem mj_r20_0 : mj_cz mj_m20 ((mj_rw mj_m20).drop 0) 0 = true := mj_pc_1 (y := mj_m20) (a := 0) (n := 40) mj_q20_0 mj_r20_1
theorem mj_q20 : mj_cr mj_m20 = true := mj_pc_0 mj_r20_0
set_option maxRecDepth 100000 in
set_option maxHeartbeats 8000000 in
theorem mj_q95 : mj_cr mj_m95 = true := by decide +kernel
set_option maxRecDepth 100000 in
set_option maxHeartbeats 8000000 in
theorem mj_q101 : mj_cr mj_m101 = true := by decide +kernel
set_option maxRecDepth 100000 in
set_option maxHeartbeats 8000000 in
theorem mj_q121_0 : mj_pc mj_m121 0 40 = true := by decide +kernel
set_option maxRecDepth 100000 in
set_option maxHeartbeats 8000000 in
theorem mj_q121_1 : mj_pc mj_m121 40 40 = true := by decide +kernel
set_option maxRecDepth 100000 in
set_option maxHeartbeats 8000000 in
theorem mj_q121_2 : mj_pc mj_m121 80 40 = true := by decide +kernel
set_option maxRecDepth 100000 in
theorem mj_q121_e : mj_cz mj_m121 ((mj_rw mj_m121).drop 120) 120 = true := by decide +kernel
theorem mj_r121_2 : mj_cz mj_m121 ((mj_rw mj_m121).drop 80) 80 = true := mj_pc_1 (y := mj_m121) (a := 80) (n := 40) mj_q121_2 mj_q121_e
theorem mj_r121_1 : mj_cz mj_m121 ((mj_rw mj_m121).drop 40) 40 = true := mj_pc_1 (y := mj_m121) (a := 40) (n := 40) mj_q121_1 mj_r121_2
theorem mj_r121_0 : mj_cz mj_m121 ((mj_rw mj_m121).drop 0) 0 = true := mj_pc_1 (y := mj_m121) (a := 0) (n := 40) mj_q121_0 mj_r121_1
theorem mj_q121 : mj_cr mj_m121 = true := mj_pc_0 mj_r121_0
set_option maxRecDepth 100000 in
set_option maxHeartbeats 8000000 in
theorem mj_q132 : mj_cr mj_m132 = true := by decide +kernel
set_option maxRecDepth 100000 in
set_option maxHeartbeats 8000000 in
theorem mj_q140_0 : mj_pc mj_m140 0 40 = true := by decide +kernel
set_option maxRecDepth 100000 in
set_option maxHeartbeats 8000000 in
theorem mj_q140_1 : mj_pc mj_m140 40 40 = true := by decide +kernel
set_option maxRecDepth 100000 in
set_option maxHeartbeats 8000000 in
theorem mj_q140_2 : mj_pc mj_m140 80 40 = true := by decide +kernel
set_option maxRecDepth 100000 in
set_option maxHeartbeats 8000000 in
theorem mj_q140_3 : mj_pc mj_m140 120 40 = true := by decide +kernel
set_option maxRecDepth 100000 in
set_option maxHeartbeats 8000000 in
theorem mj_q140_4 : mj_pc mj_m140 160 40 = true := by decide +kernel
set_option maxRecDepth 100000 in
set_option maxHeartbeats 8000000 in
theorem mj_q140_5 : mj_pc mj_m140 200 40 = true := by decide +kernel
set_option maxRecDepth 100000 in
set_option maxHeartbeats 8000000 in
theorem mj_q140_6 : mj_pc mj_m140 240 40 = true := by decide +kernel
set_option maxRecDepth 100000 in
set_option maxHeartbeats 8000000 in
theorem mj_q140_7 : mj_pc mj_m140 280 40 = true := by decide +kernel
set_option maxRecDepth 100000 in
set_option maxHeartbeats 8000000 in
theorem mj_q140_8 : mj_pc mj_m140 320 40 = true := by decide +kernel
set_option maxRecDepth 100000 in
theorem mj_q140_e : mj_cz mj_m140 ((mj_rw mj_m140).drop 360) 360 = true := by decide +kernel
theorem mj_r140_8 : mj_cz mj_m140 ((mj_rw mj_m140).drop 320) 320 = true := mj_pc_1 (y := mj_m140) (a := 320) (n := 40) mj_q140_8 mj_q140_e
theorem mj_r140_7 : mj_cz mj_m140 ((mj_rw mj_m140).drop 280) 280 = true := mj_pc_1 (y := mj_m140) (a := 280) (n := 40) mj_q140_7 mj_r140_8
theorem mj_r140_6 : mj_cz mj_m140 ((mj_rw mj_m140).drop 240) 240 = true := mj_pc_1 (y := mj_m140) (a := 240) (n := 40) mj_q140_6 mj_r140_7
theorem mj_r140_5 : mj_cz mj_m140 ((mj_rw mj_m140).drop 200) 200 = true := mj_pc_1 (y := mj_m140) (a := 200) (n := 40) mj_q140_5 mj_r140_6
theorem mj_r140_4 : mj_cz mj_m140 ((mj_rw mj_m140).drop 160) 160 = true := mj_pc_1 (y := mj_m140) (a := 160) (n := 40) mj_q140_4 mj_r140_5
theorem mj_r140_3 : mj_cz mj_m140 ((mj_rw mj_m140).drop 120) 120 = true := mj_pc_1 (y := mj_m140) (a := 120) (n := 40) mj_q140_3 mj_r140_4
theorem mj_r140_2 : mj_cz mj_m140 ((mj_rw mj_m140).drop 80) 80 = true := mj_pc_1 (y := mj_m140) (a := 80) (n := 40) mj_q140_2 mj_r140_3
theorem mj_r140_1 : mj_cz mj_m140 ((mj_rw mj_m140).drop 40) 40 = true := mj_pc_1 (y := mj_m140) (a := 40) (n := 40) mj_q140_1 mj_r140_2
theorem mj_r140_0 : mj_cz mj_m140 ((mj_rw mj_m140).drop 0) 0 = true := mj_pc_1 (y := mj_m140) (a := 0) (n := 40) mj_q140_0 mj_r140_1
theorem mj_q140 : mj_cr mj_m140 = true := mj_pc_0 mj_r140_0
set_option maxRecDepth 100000 in
set_option maxHeartbeats 8000000 in
theorem mj_q144_0 : mj_pc mj_m144 0 40 = true := by decide +kernel
set_option maxRecDepth 100000 in
set_option maxHeartbeats 8000000 in
theorem mj_q144_1 : mj_pc mj_m144 40 40 = true := by decide +kernel
set_option maxRecDepth 100000 in
theorem mj_q144_e : mj_cz mj_m144 ((mj_rw mj_m144).drop 80) 80 = true := by decide +kernel
theorem mj_r144_1 : mj_cz mj_m144 ((mj_rw mj_m144).drop 40) 40 = true := mj_pc_1 (y := mj_m144) (a := 40) (n := 40) mj_q144_1 mj_q144_e
theorem mj_r144_0 : mj_cz mj_m144 ((mj_rw mj_m144).drop 0) 0 = true := mj_pc_1 (y := mj_m144) (a := 0) (n := 40) mj_q144_0 mj_r144_1
theorem mj_q144 : mj_cr mj_m144 = true := mj_pc_0 mj_r144_0
set_option maxRecDepth 100000 in
set_option maxHeartbeats 8000000 in
theorem mj_q155 : mj_cr mj_m155 = true := by decide +kernel
set_option maxRecDepth 100000 in
set_option maxHeartbeats 8000000 in
theorem mj_q168 : mj_cr mj_m168 = true := by decide +kernel
set_option maxRecDepth 100000 in
set_option maxHeartbeats 8000000 in
theorem mj_q170_0 : mj_pc mj_m170 0 40 = true := by decide +kernel
set_option maxRecDepth 100000 in
set_option maxHeartbeats 8000000 in
theorem mj_q170_1 : mj_pc mj_m170 40 40 = true := by decide +kernel
set_option maxRecDepth 100000 in
theorem mj_q170_e : mj_cz mj_m170 ((mj_rw mj_m170).drop 80) 80 = true := by decide +kernel
theorem mj_r170_1 : mj_cz mj_m170 ((mj_rw mj_m170).drop 40) 40 = true := mj_pc_1 (y := mj_m170) (a := 40) (n := 40) mj_q170_1 mj_q170_e
theorem mj_r170_0 : mj_cz mj_m170 ((mj_rw mj_m170).drop 0) 0 = true := mj_pc_1 (y := mj_m170) (a := 0) (n := 40) mj_q170_0 mj_r170_1
theorem mj_q170 : mj_cr mj_m170 = true := mj_pc_0 mj_r170_0
set_option maxRecDepth 100000 in
set_option maxHeartbeats 8000000 in
theorem mj_q180_0 : mj_pc mj_m180 0 40 = true := by decide +kernel
set_option maxRecDepth 100000 in
set_option maxHeartbeats 8000000 in
theorem mj_q180_1 : mj_pc mj_m180 40 40 = true := by decide +kernel
set_option maxRecDepth 100000 in
set_option maxHeartbeats 8000000 in
theorem mj_q180_2 : mj_pc mj_m180 80 40 = true := by decide +kernel
set_option maxRecDepth 100000 in
set_option maxHeartbeats 8000000 in
theorem mj_q180_3 : mj_pc mj_m180 120 40 = true := by decide +kernel
set_option maxRecDepth 100000 in
theorem mj_q180_e : mj_cz mj_m180 ((mj_rw mj_m180).drop 160) 160 = true := by decide +kernel
theorem mj_r180_3 : mj_cz mj_m180 ((mj_rw mj_m180).drop 120) 120 = true := mj_pc_1 (y := mj_m180) (a := 120) (n := 40) mj_q180_3 mj_q180_e
theorem mj_r180_2 : mj_cz mj_m180 ((mj_rw mj_m180).drop 80) 80 = true := mj_pc_1 (y := mj_m180) (a := 80) (n := 40) mj_q180_2 mj_r180_3
theorem mj_r180_1 : mj_cz mj_m180 ((mj_rw mj_m180).drop 40) 40 = true := mj_pc_1 (y := mj_m180) (a := 40) (n := 40) mj_q180_1 mj_r180_2
theorem mj_r180_0 : mj_cz mj_m180 ((mj_rw mj_m180).drop 0) 0 = true := mj_pc_1 (y := mj_m180) (a := 0) (n := 40) mj_q180_0 mj_r180_1
theorem mj_q180 : mj_cr mj_m180 = true := mj_pc_0 mj_r180_0
set_option maxRecDepth 100000 in
set_option maxHeartbeats 8000000 in
theorem mj_q199_0 : mj_pc mj_m199 0 40 = true := by decide +kernel
set_option maxRecDepth 100000 in
set_option maxHeartbeats 8000000 in
theorem mj_q199_1 : mj_pc mj_m199 40 40 = true := by decide +kernel
set_option maxRecDepth 100000 in
theorem mj_q199_e : mj_cz mj_m199 ((mj_rw mj_m199).drop 80) 80 = true := by decide +kernel
theorem mj_r199_1 : mj_cz mj_m199 ((mj_rw mj_m199).drop 40) 40 = true := mj_pc_1 (y := mj_m199) (a := 40) (n := 40) mj_q199_1 mj_q199_e
theorem mj_r199_0 : mj_cz mj_m199 ((mj_rw mj_m199).drop 0) 0 = true := mj_pc_1 (y := mj_m199) (a := 0) (n := 40) mj_q199_0 mj_r199_1
theorem mj_q199 : mj_cr mj_m199 = true := mj_pc_0 mj_r199_0
set_option maxRecDepth 100000 in
set_option maxHeartbeats 8000000 in
theorem mj_q200 : mj_cr mj_m200 = true := by decide +kernel
set_option maxRecDepth 100000 in
set_option maxHeartbeats 8000000 in
theorem mj_q221_0 : mj_pc mj_m221 0 40 = true := by decide +kernel
set_option maxRecDepth 100000 in
set_option maxHeartbeats 8000000 in
theorem mj_q221_1 : mj_pc mj_m221 40 40 = true := by decide +kernel
set_option maxRecDepth 100000 in
theorem mj_q221_e : mj_cz mj_m221 ((mj_rw mj_m221).drop 80) 80 = true := by decide +kernel
theorem mj_r221_1 : mj_cz mj_m221 ((mj_rw mj_m221).drop 40) 40 = true := mj_pc_1 (y := mj_m221) (a := 40) (n := 40) mj_q221_1 mj_q221_e
theorem mj_r221_0 : mj_cz mj_m221 ((mj_rw mj_m221).drop 0) 0 = true := mj_pc_1 (y := mj_m221) (a := 0) (n := 40) mj_q221_0 mj_r221_1
theorem mj_q221 : mj_cr mj_m221 = true := mj_pc_0 mj_r221_0
set_option maxRecDepth 100000 in
set_option maxHeartbeats 8000000 in
theorem mj_q238_0 : mj_pc mj_m238 0 40 = true := by decide +kernel
set_option maxRecDepth 100000 in
set_option maxHeartbeats 8000000 in
theorem mj_q238_1 : mj_pc mj_m238 40 40 = true := by decide +kernel
set_option maxRecDepth 100000 in
theorem mj_q238_e : mj_cz mj_m238 ((mj_rw mj_m238).drop 80) 80 = true := by decide +kernel
theorem mj_r238_1 : mj_cz mj_m238 ((mj_rw mj_m238).drop 40) 40 = true := mj_pc_1 (y := mj_m238) (a := 40) (n := 40) mj_q238_1 mj_q238_e
theorem mj_r238_0 : mj_cz mj_m238 ((mj_rw mj_m238).drop 0) 0 = true := mj_pc_1 (y := mj_m238) (a := 0) (n := 40) mj_q238_0 mj_r238_1
theorem mj_q238 : mj_cr mj_m238 = true := mj_pc_0 mj_r238_0
set_option maxRecDepth 100000 in
set_option maxHeartbeats 8000000 in
theorem mj_q244_0 : mj_pc mj_m244 0 40 = true := by decide +kernel
set_option maxRecDepth 100000 in
set_option maxHeartbeats 8000000 in
theorem mj_q244_1 : mj_pc mj_m244 40 40 = true := by decide +kernel
set_option maxRecDepth 100000 in
set_option maxHeartbeats 8000000 in
theorem mj_q244_2 : mj_pc mj_m244 80 40 = true := by decide +kernel
set_option maxRecDepth 100000 in
set_option maxHeartbeats 8000000 in
theorem mj_q244_3 : mj_pc mj_m244 120 40 = true := by decide +kernel
set_option maxRecDepth 100000 in
set_option maxHeartbeats 8000000 in
theorem mj_q244_4 : mj_pc mj_m244 160 40 = true := by decide +kernel
set_option maxRecDepth 100000 in
theorem mj_q244_e : mj_cz mj_m244 ((mj_rw mj_m244).drop 200) 200 = true := by decide +kernel
theorem mj_r244_4 : mj_cz mj_m244 ((mj_rw mj_m244).drop 160) 160 = true := mj_pc_1 (y := mj_m244) (a := 160) (n := 40) mj_q244_4 mj_q244_e
theorem mj_r244_3 : mj_cz mj_m244 ((mj_rw mj_m244).drop 120) 120 = true := mj_pc_1 (y := mj_m244) (a := 120) (n := 40) mj_q244_3 mj_r244_4
theorem mj_r244_2 : mj_cz mj_m244 ((mj_rw mj_m244).drop 80) 80 = true := mj_pc_1 (y := mj_m244) (a := 80) (n := 40) mj_q244_2 mj_r244_3
theorem mj_r244_1 : mj_cz mj_m244 ((mj_rw mj_m244).drop 40) 40 = true := mj_pc_1 (y := mj_m244) (a := 40) (n := 40) mj_q244_1 mj_r244_2
theorem mj_r244_0 : mj_cz mj_m244 ((mj_rw mj_m244).drop 0) 0 = true := mj_pc_1 (y := mj_m244) (a := 0) (n := 40) mj_q244_0 mj_r244_1
theorem mj_q244 : mj_cr mj_m244 = true := mj_pc_0 mj_r244_0
set_option maxRecDepth 100000 in
set_option maxHeartbeats 8000000 in
theorem mj_q247 : mj_cr mj_m247 = true := by decide +kernel
set_option maxRecDepth 100000 in
set_option maxHeartbeats 8000000 in
theorem mj_q327_0 : mj_pc mj_m327 0 40 = true := by decide +kernel
set_option maxRecDepth 100000 in
set_option maxHeartbeats 8000000 in
theorem mj_q327_1 : mj_pc mj_m327 40 40 = true := by decide +kernel
set_option maxRecDepth 100000 in
set_option maxHeartbeats 8000000 in
theorem mj_q327_2 : mj_pc mj_m327 80 40 = true := by decide +kernel
set_option maxRecDepth 100000 in
theorem mj_q327_e : mj_cz mj_m327 ((mj_rw mj_m327).drop 120) 120 = true := by decide +kernel
theorem mj_r327_2 : mj_cz mj_m327 ((mj_rw mj_m327).drop 80) 80 = true := mj_pc_1 (y := mj_m327) (a := 80) (n := 40) mj_q327_2 mj_q327_e
theorem mj_r327_1 : mj_cz mj_m327 ((mj_rw mj_m327).drop 40) 40 = true := mj_pc_1 (y := mj_m327) (a := 40) (n := 40) mj_q327_1 mj_r327_2
theorem mj_r327_0 : mj_cz mj_m327 ((mj_rw mj_m327).drop 0) 0 = true := mj_pc_1 (y := mj_m327) (a := 0) (n := 40) mj_q327_0 mj_r327_1
theorem mj_q327 : mj_cr mj_m327 = true := mj_pc_0 mj_r327_0
end
