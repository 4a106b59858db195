/- g1.chk20 -/
section
set_option maxRecDepth 512
set_option maxRecDepth 100000 in
set_option maxHeartbeats 8000000 in
theorem mj_q1 : mj_cr mj_m1 = true := by decide +kernel
set_option maxRecDepth 100000 in
set_option maxHeartbeats 8000000 in
theorem mj_q25 : mj_cr mj_m25 = true := by decide +kernel
set_option maxRecDepth 100000 in
set_option maxHeartbeats 8000000 in
theorem mj_q35 : mj_cr mj_m35 = true := by decide +kernel
set_option maxRecDepth 100000 in
set_option maxHeartbeats 8000000 in
theorem mj_q39 : mj_cr mj_m39 = true := by decide +kernel
set_option maxRecDepth 100000 in
set_option maxHeartbeats 8000000 in
theorem mj_q43 : mj_cr mj_m43 = true := by decide +kernel
set_option maxRecDepth 100000 in
set_option maxHeartbeats 8000000 in
theorem mj_q62_0 : mj_pc mj_m62 0 40 = true := by decide +kernel
set_option maxRecDepth 100000 in
set_option maxHeartbeats 8000000 in
theorem mj_q62_1 : mj_pc mj_m62 40 40 = true := by decide +kernel
set_option maxRecDepth 100000 in
set_option maxHeartbeats 8000000 in
theorem mj_q62_2 : mj_pc mj_m62 80 40 = true := by decide +kernel
set_option maxRecDepth 100000 in
theorem mj_q62_e : mj_cz mj_m62 ((mj_rw mj_m62).drop 120) 120 = true := by decide +kernel
theorem mj_r62_2 : mj_cz mj_m62 ((mj_rw mj_m62).drop 80) 80 = true := mj_pc_1 (y := mj_m62) (a := 80) (n := 40) mj_q62_2 mj_q62_e
theorem mj_r62_1 : mj_cz mj_m62 ((mj_rw mj_m62).drop 40) 40 = true := mj_pc_1 (y := mj_m62) (a := 40) (n := 40) mj_q62_1 mj_r62_2
theorem mj_r62_0 : mj_cz mj_m62 ((mj_rw mj_m62).drop 0) 0 = true := mj_pc_1 (y := mj_m62) (a := 0) (n := 40) mj_q62_0 mj_r62_1
theorem mj_q62 : mj_cr mj_m62 = true := mj_pc_0 mj_r62_0
set_option maxRecDepth 100000 in
set_option maxHeartbeats 8000000 in
theorem mj_q123 : mj_cr mj_m123 = true := by decide +kernel
set_option maxRecDepth 100000 in
set_option maxHeartbeats 8000000 in
theorem mj_q126_0 : mj_pc mj_m126 0 40 = true := by decide +kernel
set_option maxRecDepth 100000 in
set_option maxHeartbeats 8000000 in
theorem mj_q126_1 : mj_pc mj_m126 40 40 = true := by decide +kernel
set_option maxRecDepth 100000 in
set_option maxHeartbeats 8000000 in
theorem mj_q126_2 : mj_pc mj_m126 80 40 = true := by decide +kernel
set_option maxRecDepth 100000 in
theorem mj_q126_e : mj_cz mj_m126 ((mj_rw mj_m126).drop 120) 120 = true := by decide +kernel
theorem mj_r126_2 : mj_cz mj_m126 ((mj_rw mj_m126).drop 80) 80 = true := mj_pc_1 (y := mj_m126) (a := 80) (n := 40) mj_q126_2 mj_q126_e
theorem mj_r126_1 : mj_cz mj_m126 ((mj_rw mj_m126).drop 40) 40 = true := mj_pc_1 (y := mj_m126) (a := 40) (n := 40) mj_q126_1 mj_r126_2
theorem mj_r126_0 : mj_cz mj_m126 ((mj_rw mj_m126).drop 0) 0 = true := mj_pc_1 (y := mj_m126) (a := 0) (n := 40) mj_q126_0 mj_r126_1
theorem mj_q126 : mj_cr mj_m126 = true := mj_pc_0 mj_r126_0
set_option maxRecDepth 100000 in
set_option maxHeartbeats 8000000 in
theorem mj_q158 : mj_cr mj_m158 = true := by decide +kernel
set_option maxRecDepth 100000 in
set_option maxHeartbeats 8000000 in
theorem mj_q160 : mj_cr mj_m160 = true := by decide +kernel
set_option maxRecDepth 100000 in
set_option maxHeartbeats 8000000 in
theorem mj_q173_0 : mj_pc mj_m173 0 40 = true := by decide +kernel
set_option maxRecDepth 100000 in
set_option maxHeartbeats 8000000 in
theorem mj_q173_1 : mj_pc mj_m173 40 40 = true := by decide +kernel
set_option maxRecDepth 100000 in
theorem mj_q173_e : mj_cz mj_m173 ((mj_rw mj_m173).drop 80) 80 = true := by decide +kernel
theorem mj_r173_1 : mj_cz mj_m173 ((mj_rw mj_m173).drop 40) 40 = true := mj_pc_1 (y := mj_m173) (a := 40) (n := 40) mj_q173_1 mj_q173_e
theorem mj_r173_0 : mj_cz mj_m173 ((mj_rw mj_m173).drop 0) 0 = true := mj_pc_1 (y := mj_m173) (a := 0) (n := 40) mj_q173_0 mj_r173_1
theorem mj_q173 : mj_cr mj_m173 = true := mj_pc_0 mj_r173_0
set_option maxRecDepth 100000 in
set_option maxHeartbeats 8000000 in
theorem mj_q177_0 : mj_pc mj_m177 0 40 = true := by decide +kernel
set_option maxRecDepth 100000 in
set_option maxHeartbeats 8000000 in
theorem mj_q177_1 : mj_pc mj_m177 40 40 = true := by decide +kernel
set_option maxRecDepth 100000 in
theorem mj_q177_e : mj_cz mj_m177 ((mj_rw mj_m177).drop 80) 80 = true := by decide +kernel
theorem mj_r177_1 : mj_cz mj_m177 ((mj_rw mj_m177).drop 40) 40 = true := mj_pc_1 (y := mj_m177) (a := 40) (n := 40) mj_q177_1 mj_q177_e
theorem mj_r177_0 : mj_cz mj_m177 ((mj_rw mj_m177).drop 0) 0 = true := mj_pc_1 (y := mj_m177) (a := 0) (n := 40) mj_q177_0 mj_r177_1
theorem mj_q177 : mj_cr mj_m177 = true := mj_pc_0 mj_r177_0
set_option maxRecDepth 100000 in
set_option maxHeartbeats 8000000 in
theorem mj_q185_0 : mj_pc mj_m185 0 40 = true := by decide +kernel
set_option maxRecDepth 100000 in
set_option maxHeartbeats 8000000 in
theorem mj_q185_1 : mj_pc mj_m185 40 40 = true := by decide +kernel
set_option maxRecDepth 100000 in
theorem mj_q185_e : mj_cz mj_m185 ((mj_rw mj_m185).drop 80) 80 = true := by decide +kernel
theorem mj_r185_1 : mj_cz mj_m185 ((mj_rw mj_m185).drop 40) 40 = true := mj_pc_1 (y := mj_m185) (a := 40) (n := 40) mj_q185_1 mj_q185_e
theorem mj_r185_0 : mj_cz mj_m185 ((mj_rw mj_m185).drop 0) 0 = true := mj_pc_1 (y := mj_m185) (a := 0) (n := 40) mj_q185_0 mj_r185_1
theorem mj_q185 : mj_cr mj_m185 = true := mj_pc_0 mj_r185_0
set_option maxRecDepth 100000 in
set_option maxHeartbeats 8000000 in
theorem mj_q216_0 : mj_pc mj_m216 0 40 = true := by decide +kernel
set_option maxRecDepth 100000 in
set_option maxHeartbeats 8000000 in
theorem mj_q216_1 : mj_pc mj_m216 40 40 = true := by decide +kernel
set_option maxRecDepth 100000 in
theorem mj_q216_e : mj_cz mj_m216 ((mj_rw mj_m216).drop 80) 80 = true := by decide +kernel
theorem mj_r216_1 : mj_cz mj_m216 ((mj_rw mj_m216).drop 40) 40 = true := mj_pc_1 (y := mj_m216) (a := 40) (n := 40) mj_q216_1 mj_q216_e
theorem mj_r216_0 : mj_cz mj_m216 ((mj_rw mj_m216).drop 0) 0 = true := mj_pc_1 (y := mj_m216) (a := 0) (n := 40) mj_q216_0 mj_r216_1
theorem mj_q216 : mj_cr mj_m216 = true := mj_pc_0 mj_r216_0
set_option maxRecDepth 100000 in
set_option maxHeartbeats 8000000 in
theorem mj_q255_0 : mj_pc mj_m255 0 40 = true := by decide +kernel
set_option maxRecDepth 100000 in
set_option maxHeartbeats 8000000 in
theorem mj_q255_1 : mj_pc mj_m255 40 40 = true := by decide +kernel
set_option maxRecDepth 100000 in
set_option maxHeartbeats 8000000 in
theorem mj_q255_2 : mj_pc mj_m255 80 40 = true := by decide +kernel
set_option maxRecDepth 100000 in
set_option maxHeartbeats 8000000 in
theorem mj_q255_3 : mj_pc mj_m255 120 40 = true := by decide +kernel
set_option maxRecDepth 100000 in
set_option maxHeartbeats 8000000 in
theorem mj_q255_4 : mj_pc mj_m255 160 40 = true := by decide +kernel
set_option maxRecDepth 100000 in
set_option maxHeartbeats 8000000 in
theorem mj_q255_5 : mj_pc mj_m255 200 40 = true := by decide +kernel
set_option maxRecDepth 100000 in
set_option maxHeartbeats 8000000 in
theorem mj_q255_6 : mj_pc mj_m255 240 40 = true := by decide +kernel
set_option maxRecDepth 100000 in
theorem mj_q255_e : mj_cz mj_m255 ((mj_rw mj_m255).drop 280) 280 = true := by decide +kernel
theorem mj_r255_6 : mj_cz mj_m255 ((mj_rw mj_m255).drop 240) 240 = true := mj_pc_1 (y := mj_m255) (a := 240) (n := 40) mj_q255_6 mj_q255_e
theorem mj_r255_5 : mj_cz mj_m255 ((mj_rw mj_m255).drop 200) 200 = true := mj_pc_1 (y := mj_m255) (a := 200) (n := 40) mj_q255_5 mj_r255_6
theorem mj_r255_4 : mj_cz mj_m255 ((mj_rw mj_m255).drop 160) 160 = true := mj_pc_1 (y := mj_m255) (a := 160) (n := 40) mj_q255_4 mj_r255_5
theorem mj_r255_3 : mj_cz mj_m255 ((mj_rw mj_m255).drop 120) 120 = true := mj_pc_1 (y := mj_m255) (a := 120) (n := 40) mj_q255_3 mj_r255_4
theorem mj_r255_2 : mj_cz mj_m255 ((mj_rw mj_m255).drop 80) 80 = true := mj_pc_1 (y := mj_m255) (a := 80) (n := 40) mj_q255_2 mj_r255_3
theorem mj_r255_1 : mj_cz mj_m255 ((mj_rw mj_m255).drop 40) 40 = true := mj_pc_1 (y := mj_m255) (a := 40) (n := 40) mj_q255_1 mj_r255_2
theorem mj_r255_0 : mj_cz mj_m255 ((mj_rw mj_m255).drop 0) 0 = true := mj_pc_1 (y := mj_m255) (a := 0) (n := 40) mj_q255_0 mj_r255_1
theorem mj_q255 : mj_cr mj_m255 = true := mj_pc_0 mj_r255_0
set_option maxRecDepth 100000 in
set_option maxHeartbeats 8000000 in
theorem mj_q261_0 : mj_pc mj_m261 0 40 = true := by decide +kernel
set_option maxRecDepth 100000 in
set_option maxHeartbeats 8000000 in
theorem mj_q261_1 : mj_pc mj_m261 40 40 = true := by decide +kernel
set_option maxRecDepth 100000 in
theorem mj_q261_e : mj_cz mj_m261 ((mj_rw mj_m261).drop 80) 80 = true := by decide +kernel
theorem mj_r261_1 : mj_cz mj_m261 ((mj_rw mj_m261).drop 40) 40 = true := mj_pc_1 (y := mj_m261) (a := 40) (n := 40) mj_q261_1 mj_q261_e
theorem mj_r261_0 : mj_cz mj_m261 ((mj_rw mj_m261).drop 0) 0 = true := mj_pc_1 (y := mj_m261) (a := 0) (n := 40) mj_q261_0 mj_r261_1
theorem mj_q261 : mj_cr mj_m261 = true := mj_pc_0 mj_r261_0
set_option maxRecDepth 100000 in
set_option maxHeartbeats 8000000 in
theorem mj_q334_0 : mj_pc mj_m334 0 40 = true := by decide +kernel
set_option maxRecDepth 100000 in
set_option maxHeartbeats 8000000 in
theorem mj_q334_1 : mj_pc mj_m334 40 40 = true := by decide +kernel
set_option maxRecDepth 100000 in
set_option maxHeartbeats 8000000 in
theorem mj_q334_2 : mj_pc mj_m334 80 40 = true := by decide +kernel
set_option maxRecDepth 100000 in
set_option maxHeartbeats 8000000 in
theorem mj_q334_3 : mj_pc mj_m334 120 40 = true := by decide +kernel
set_option maxRecDepth 100000 in
theorem mj_q334_e : mj_cz mj_m334 ((mj_rw mj_m334).drop 160) 160 = true := by decide +kernel
theorem mj_r334_3 : mj_cz mj_m334 ((mj_rw mj_m334).drop 120) 120 = true := mj_pc_1 (y := mj_m334) (a := 120) (n := 40) mj_q334_3 mj_q334_e
theorem mj_r334_2 : mj_cz mj_m334 ((mj_rw mj_m334).drop 80) 80 = true := mj_pc_1 (y := mj_m334) (a := 80) (n := 40) mj_q334_2 mj_r334_3
theorem mj_r334_1 : mj_cz mj_m334 ((mj_rw mj_m334).drop 40) 40 = true := mj_pc_1 (y := mj_m334) (a := 40) (n := 40) mj_q334_1 mj_r334_2
theorem mj_r334_0 : mj_cz mj_m334 ((mj_rw mj_m334).drop 0) 0 = true := mj_pc_1 (y := mj_m334) (a := 0) (n := 40) mj_q334_0 mj_r334_1
theorem mj_q334 : mj_cr mj_m334 = true := mj_pc_0 mj_r334_0
set_option maxRecDepth 100000 in
set_option maxHeartbeats 8000000 in
theorem mj_q336 : mj_cr mj_m336 = true := by decide +kernel
set_option maxRecDepth 100000 in
set_option maxHeartbeats 8000000 in
theorem mj_q366_0 : mj_pc mj_m366 0 40 = true := by decide +kernel
set_option maxRecDepth 100000 in
set_option maxHeartbeats 8000000 in
theorem mj_q366_1 : mj_pc mj_m366 40 40 = true := by decide +kernel
set_option maxRecDepth 100000 in
set_option maxHeartbeats 8000000 in
theorem mj_q366_2 : mj_pc mj_m366 80 40 = true := by decide +kernel
set_option maxRecDepth 100000 in
set_option maxHeartbeats 8000000 in
theorem mj_q366_3 : mj_pc mj_m366 120 40 = true := by decide +kernel
set_option maxRecDepth 100000 in
set_option maxHeartbeats 8000000 in
theorem mj_q366_4 : mj_pc mj_m366 160 40 = true := by decide +kernel
set_option maxRecDepth 100000 in
theorem mj_q366_e : mj_cz mj_m366 ((mj_rw mj_m366).drop 200) 200 = true := by decide +kernel
theorem mj_r366_4 : mj_cz mj_m366 ((mj_rw mj_m366).drop 160) 160 = true := mj_pc_1 (y := mj_m366) (a := 160) (n := 40) mj_q366_4 mj_q366_e
theorem mj_r366_3 : mj_cz mj_m366 ((mj_rw mj_m366).drop 120) 120 = true := mj_pc_1 (y := mj_m366) (a := 120) (n := 40) mj_q366_3 mj_r366_4
theorem mj_r366_2 : mj_cz mj_m366 ((mj_rw mj_m366).drop 80) 80 = true := mj_pc_1 (y := mj_m366) (a := 80) (n := 40) mj_q366_2 mj_r366_3
theorem mj_r366_1 : mj_cz mj_m366 ((mj_rw mj_m366).drop 40) 40 = true := mj_pc_1 (y := mj_m366) (a := 40) (n := 40) mj_q366_1 mj_r366_2
theorem mj_r366_0 : mj_cz mj_m366 ((mj_rw mj_m366).drop 0) 0 = true := mj_pc_1 (y := mj_m366) (a := 0) (n := 40) mj_q366_0 mj_r366_1
theorem mj_q366 : mj_cr mj_m366 = true := mj_pc_0 mj_r366_0
set_option maxRecDepth 100000 in
set_option maxHeartbeats 8000000 in
theorem mj_q379_0 : mj_pc mj_m379 0 40 = true := by decide +kernel
set_option maxRecDepth 100000 in
set_option maxHeartbeats 8000000 in
theorem mj_q379_1 : mj_pc mj_m379 40 40 = true := by decide +kernel
set_option maxRecDepth 100000 in
set_option maxHeartbeats 8000000 in
theorem mj_q379_2 : mj_pc mj_m379 80 40 = true := by decide +kernel
set_option maxRecDepth 100000 in
set_option maxHeartbeats 8000000 in
theorem mj_q379_3 : mj_pc mj_m379 120 40 = true := by decide +kernel
set_option maxRecDepth 100000 in
set_option maxHeartbeats 8000000 in
theorem mj_q379_4 : mj_pc mj_m379 160 40 = true := by decide +kernel
set_option maxRecDepth 100000 in
set_option maxHeartbeats 8000000 in
theorem mj_q379_5 : mj_pc mj_m379 200 40 = true := by decide +kernel
set_option maxRecDepth 100000 in
theorem mj_q379_e : mj_cz mj_m379 ((mj_rw mj_m379).drop 240) 240 = true := by decide +kernel
theorem mj_r379_5 : mj_cz mj_m379 ((mj_rw mj_m379).drop 200) 200 = true := mj_pc_1 (y := mj_m379) (a := 200) (n := 40) mj_q379_5 mj_q379_e
theorem mj_r379_4 : mj_cz mj_m379 ((mj_rw mj_m379).drop 160) 160 = true := mj_pc_1 (y := mj_m379) (a := 160) (n := 40) mj_q379_4 mj_r379_5
theorem mj_r379_3 : mj_cz mj_m379 ((mj_rw mj_m379).drop 120) 120 = true := mj_pc_1 (y := mj_m379) (a := 120) (n := 40) mj_q379_3 mj_r379_4
theorem mj_r379_2 : mj_cz mj_m379 ((mj_rw mj_m379).drop 80) 80 = true := mj_pc_1 (y := mj_m379) (a := 80) (n := 40) mj_q379_2 mj_r379_3
theorem mj_r379_1 : mj_cz mj_m379 ((mj_rw mj_m379).drop 40) 40 = true := mj_pc_1 (y := mj_m379) (a := 40) (n := 40) mj_q379_1 mj_r379_2
theorem mj_r379_0 : mj_cz mj_m379 ((mj_rw mj_m379).drop 0) 0 = true := mj_pc_1 (y := mj_m379) (a := 0) (n := 40) mj_q379_0 mj_r379_1
theorem mj_q379 : mj_cr mj_m379 = true := mj_pc_0 mj_r379_0
end
