/- g1.chk23 -/
section
set_option maxRecDepth 512
set_option maxRecDepth 100000 in
set_option maxHeartbeats 8000000 in
theorem mj_q22_0 : mj_pc mj_m22 0 40 = true := by decide +kernel
set_option maxRecDepth 100000 in
set_option maxHeartbeats 8000000 in
theorem mj_q22_1 : mj_pc mj_m22 40 40 = true := by decide +kernel
set_option maxRecDepth 100000 in
theorem mj_q22_e : mj_cz mj_m22 ((mj_rw mj_m22).drop 80) 80 = true := by decide +kernel
theorem mj_r22_1 : mj_cz mj_m22 ((mj_rw mj_m22).drop 40) 40 = true := mj_pc_1 (y := mj_m22) (a := 40) (n := 40) mj_q22_1 mj_q22_e
theorem mj_r22_0 : mj_cz mj_m22 ((mj_rw mj_m22).drop 0) 0 = true := mj_pc_1 (y := mj_m22) (a := 0) (n := 40) mj_q22_0 mj_r22_1
theorem mj_q22 : mj_cr mj_m22 = true := mj_pc_0 mj_r22_0
set_option maxRecDepth 100000 in
set_option maxHeartbeats 8000000 in
theorem mj_q32_0 : mj_pc mj_m32 0 40 = true := by decide +kernel
set_option maxRecDepth 100000 in
set_option maxHeartbeats 8000000 in
theorem mj_q32_1 : mj_pc mj_m32 40 40 = true := by decide +kernel
set_option maxRecDepth 100000 in
theorem mj_q32_e : mj_cz mj_m32 ((mj_rw mj_m32).drop 80) 80 = true := by decide +kernel
theorem mj_r32_1 : mj_cz mj_m32 ((mj_rw mj_m32).drop 40) 40 = true := mj_pc_1 (y := mj_m32) (a := 40) (n := 40) mj_q32_1 mj_q32_e
theorem mj_r32_0 : mj_cz mj_m32 ((mj_rw mj_m32).drop 0) 0 = true := mj_pc_1 (y := mj_m32) (a := 0) (n := 40) mj_q32_0 mj_r32_1
theorem mj_q32 : mj_cr mj_m32 = true := mj_pc_0 mj_r32_0
set_option maxRecDepth 100000 in
set_option maxHeartbeats 8000000 in
theorem mj_q37_0 : mj_pc mj_m37 0 40 = true := by decide +kernel
set_option maxRecDepth 100000 in
set_option maxHeartbeats 8000000 in
theorem mj_q37_1 : mj_pc mj_m37 40 40 = true := by decide +kernel
set_option maxRecDepth 100000 in
set_option maxHeartbeats 8000000 in
theorem mj_q37_2 : mj_pc mj_m37 80 40 = true := by decide +kernel
set_option maxRecDepth 100000 in
set_option maxHeartbeats 8000000 in
theorem mj_q37_3 : mj_pc mj_m37 120 40 = true := by decide +kernel
set_option maxRecDepth 100000 in
set_option maxHeartbeats 8000000 in
theorem mj_q37_4 : mj_pc mj_m37 160 40 = true := by decide +kernel
set_option maxRecDepth 100000 in
theorem mj_q37_e : mj_cz mj_m37 ((mj_rw mj_m37).drop 200) 200 = true := by decide +kernel
theorem mj_r37_4 : mj_cz mj_m37 ((mj_rw mj_m37).drop 160) 160 = true := mj_pc_1 (y := mj_m37) (a := 160) (n := 40) mj_q37_4 mj_q37_e
theorem mj_r37_3 : mj_cz mj_m37 ((mj_rw mj_m37).drop 120) 120 = true := mj_pc_1 (y := mj_m37) (a := 120) (n := 40) mj_q37_3 mj_r37_4
theorem mj_r37_2 : mj_cz mj_m37 ((mj_rw mj_m37).drop 80) 80 = true := mj_pc_1 (y := mj_m37) (a := 80) (n := 40) mj_q37_2 mj_r37_3
theorem mj_r37_1 : mj_cz mj_m37 ((mj_rw mj_m37).drop 40) 40 = true := mj_pc_1 (y := mj_m37) (a := 40) (n := 40) mj_q37_1 mj_r37_2
theorem mj_r37_0 : mj_cz mj_m37 ((mj_rw mj_m37).drop 0) 0 = true := mj_pc_1 (y := mj_m37) (a := 0) (n := 40) mj_q37_0 mj_r37_1
theorem mj_q37 : mj_cr mj_m37 = true := mj_pc_0 mj_r37_0
set_option maxRecDepth 100000 in
set_option maxHeartbeats 8000000 in
theorem mj_q44_0 : mj_pc mj_m44 0 40 = true := by decide +kernel
set_option maxRecDepth 100000 in
set_option maxHeartbeats 8000000 in
theorem mj_q44_1 : mj_pc mj_m44 40 40 = true := by decide +kernel
set_option maxRecDepth 100000 in
set_option maxHeartbeats 8000000 in
theorem mj_q44_2 : mj_pc mj_m44 80 40 = true := by decide +kernel
set_option maxRecDepth 100000 in
set_option maxHeartbeats 8000000 in
theorem mj_q44_3 : mj_pc mj_m44 120 40 = true := by decide +kernel
set_option maxRecDepth 100000 in
set_option maxHeartbeats 8000000 in
theorem mj_q44_4 : mj_pc mj_m44 160 40 = true := by decide +kernel
set_option maxRecDepth 100000 in
set_option maxHeartbeats 8000000 in
theorem mj_q44_5 : mj_pc mj_m44 200 40 = true := by decide +kernel
set_option maxRecDepth 100000 in
theorem mj_q44_e : mj_cz mj_m44 ((mj_rw mj_m44).drop 240) 240 = true := by decide +kernel
theorem mj_r44_5 : mj_cz mj_m44 ((mj_rw mj_m44).drop 200) 200 = true := mj_pc_1 (y := mj_m44) (a := 200) (n := 40) mj_q44_5 mj_q44_e
theorem mj_r44_4 : mj_cz mj_m44 ((mj_rw mj_m44).drop 160) 160 = true := mj_pc_1 (y := mj_m44) (a := 160) (n := 40) mj_q44_4 mj_r44_5
theorem mj_r44_3 : mj_cz mj_m44 ((mj_rw mj_m44).drop 120) 120 = true := mj_pc_1 (y := mj_m44) (a := 120) (n := 40) mj_q44_3 mj_r44_4
theorem mj_r44_2 : mj_cz mj_m44 ((mj_rw mj_m44).drop 80) 80 = true := mj_pc_1 (y := mj_m44) (a := 80) (n := 40) mj_q44_2 mj_r44_3
theorem mj_r44_1 : mj_cz mj_m44 ((mj_rw mj_m44).drop 40) 40 = true := mj_pc_1 (y := mj_m44) (a := 40) (n := 40) mj_q44_1 mj_r44_2
theorem mj_r44_0 : mj_cz mj_m44 ((mj_rw mj_m44).drop 0) 0 = true := mj_pc_1 (y := mj_m44) (a := 0) (n := 40) mj_q44_0 mj_r44_1
theorem mj_q44 : mj_cr mj_m44 = true := mj_pc_0 mj_r44_0
set_option maxRecDepth 100000 in
set_option maxHeartbeats 8000000 in
theorem mj_q48_0 : mj_pc mj_m48 0 40 = true := by decide +kernel
set_option maxRecDepth 100000 in
set_option maxHeartbeats 8000000 in
theorem mj_q48_1 : mj_pc mj_m48 40 40 = true := by decide +kernel
set_option maxRecDepth 100000 in
theorem mj_q48_e : mj_cz mj_m48 ((mj_rw mj_m48).drop 80) 80 = true := by decide +kernel
theorem mj_r48_1 : mj_cz mj_m48 ((mj_rw mj_m48).drop 40) 40 = true := mj_pc_1 (y := mj_m48) (a := 40) (n := 40) mj_q48_1 mj_q48_e
theorem mj_r48_0 : mj_cz mj_m48 ((mj_rw mj_m48).drop 0) 0 = true := mj_pc_1 (y := mj_m48) (a := 0) (n := 40) mj_q48_0 mj_r48_1
theorem mj_q48 : mj_cr mj_m48 = true := mj_pc_0 mj_r48_0
set_option maxRecDepth 100000 in
set_option maxHeartbeats 8000000 in
theorem mj_q51_0 : mj_pc mj_m51 0 40 = true := by decide +kernel
set_option maxRecDepth 100000 in
set_option maxHeartbeats 8000000 in
theorem mj_q51_1 : mj_pc mj_m51 40 40 = true := by decide +kernel
set_option maxRecDepth 100000 in
set_option maxHeartbeats 8000000 in
theorem mj_q51_2 : mj_pc mj_m51 80 40 = true := by decide +kernel
set_option maxRecDepth 100000 in
set_option maxHeartbeats 8000000 in
theorem mj_q51_3 : mj_pc mj_m51 120 40 = true := by decide +kernel
set_option maxRecDepth 100000 in
theorem mj_q51_e : mj_cz mj_m51 ((mj_rw mj_m51).drop 160) 160 = true := by decide +kernel
theorem mj_r51_3 : mj_cz mj_m51 ((mj_rw mj_m51).drop 120) 120 = true := mj_pc_1 (y := mj_m51) (a := 120) (n := 40) mj_q51_3 mj_q51_e
theorem mj_r51_2 : mj_cz mj_m51 ((mj_rw mj_m51).drop 80) 80 = true := mj_pc_1 (y := mj_m51) (a := 80) (n := 40) mj_q51_2 mj_r51_3
theorem mj_r51_1 : mj_cz mj_m51 ((mj_rw mj_m51).drop 40) 40 = true := mj_pc_1 (y := mj_m51) (a := 40) (n := 40) mj_q51_1 mj_r51_2
theorem mj_r51_0 : mj_cz mj_m51 ((mj_rw mj_m51).drop 0) 0 = true := mj_pc_1 (y := mj_m51) (a := 0) (n := 40) mj_q51_0 mj_r51_1
theorem mj_q51 : mj_cr mj_m51 = true := mj_pc_0 mj_r51_0
set_option maxRecDepth 100000 in
set_option maxHeartbeats 8000000 in
theorem mj_q122 : mj_cr mj_m122 = true := by decide +kernel
set_option maxRecDepth 100000 in
set_option maxHeartbeats 8000000 in
theorem mj_q137 : mj_cr mj_m137 = true := by decide +kernel
set_option maxRecDepth 100000 in
set_option maxHeartbeats 8000000 in
theorem mj_q162_0 : mj_pc mj_m162 0 40 = true := by decide +kernel
set_option maxRecDepth 100000 in
set_option maxHeartbeats 8000000 in
theorem mj_q162_1 : mj_pc mj_m162 40 40 = true := by decide +kernel
set_option maxRecDepth 100000 in
theorem mj_q162_e : mj_cz mj_m162 ((mj_rw mj_m162).drop 80) 80 = true := by decide +kernel
theorem mj_r162_1 : mj_cz mj_m162 ((mj_rw mj_m162).drop 40) 40 = true := mj_pc_1 (y := mj_m162) (a := 40) (n := 40) mj_q162_1 mj_q162_e
theorem mj_r162_0 : mj_cz mj_m162 ((mj_rw mj_m162).drop 0) 0 = true := mj_pc_1 (y := mj_m162) (a := 0) (n := 40) mj_q162_0 mj_r162_1
theorem mj_q162 : mj_cr mj_m162 = true := mj_pc_0 mj_r162_0
set_option maxRecDepth 100000 in
set_option maxHeartbeats 8000000 in
theorem mj_q171 : mj_cr mj_m171 = true := by decide +kernel
set_option maxRecDepth 100000 in
set_option maxHeartbeats 8000000 in
theorem mj_q205 : mj_cr mj_m205 = true := by decide +kernel
set_option maxRecDepth 100000 in
set_option maxHeartbeats 8000000 in
theorem mj_q234 : mj_cr mj_m234 = true := by decide +kernel
set_option maxRecDepth 100000 in
set_option maxHeartbeats 8000000 in
theorem mj_q251_0 : mj_pc mj_m251 0 40 = true := by decide +kernel
set_option maxRecDepth 100000 in
set_option maxHeartbeats 8000000 in
theorem mj_q251_1 : mj_pc mj_m251 40 40 = true := by decide +kernel
set_option maxRecDepth 100000 in
set_option maxHeartbeats 8000000 in
theorem mj_q251_2 : mj_pc mj_m251 80 40 = true := by decide +kernel
set_option maxRecDepth 100000 in
set_option maxHeartbeats 8000000 in
theorem mj_q251_3 : mj_pc mj_m251 120 40 = true := by decide +kernel
set_option maxRecDepth 100000 in
set_option maxHeartbeats 8000000 in
theorem mj_q251_4 : mj_pc mj_m251 160 40 = true := by decide +kernel
set_option maxRecDepth 100000 in
set_option maxHeartbeats 8000000 in
theorem mj_q251_5 : mj_pc mj_m251 200 40 = true := by decide +kernel
set_option maxRecDepth 100000 in
theorem mj_q251_e : mj_cz mj_m251 ((mj_rw mj_m251).drop 240) 240 = true := by decide +kernel
theorem mj_r251_5 : mj_cz mj_m251 ((mj_rw mj_m251).drop 200) 200 = true := mj_pc_1 (y := mj_m251) (a := 200) (n := 40) mj_q251_5 mj_q251_e
theorem mj_r251_4 : mj_cz mj_m251 ((mj_rw mj_m251).drop 160) 160 = true := mj_pc_1 (y := mj_m251) (a := 160) (n := 40) mj_q251_4 mj_r251_5
theorem mj_r251_3 : mj_cz mj_m251 ((mj_rw mj_m251).drop 120) 120 = true := mj_pc_1 (y := mj_m251) (a := 120) (n := 40) mj_q251_3 mj_r251_4
theorem mj_r251_2 : mj_cz mj_m251 ((mj_rw mj_m251).drop 80) 80 = true := mj_pc_1 (y := mj_m251) (a := 80) (n := 40) mj_q251_2 mj_r251_3
theorem mj_r251_1 : mj_cz mj_m251 ((mj_rw mj_m251).drop 40) 40 = true := mj_pc_1 (y := mj_m251) (a := 40) (n := 40) mj_q251_1 mj_r251_2
theorem mj_r251_0 : mj_cz mj_m251 ((mj_rw mj_m251).drop 0) 0 = true := mj_pc_1 (y := mj_m251) (a := 0) (n := 40) mj_q251_0 mj_r251_1
theorem mj_q251 : mj_cr mj_m251 = true := mj_pc_0 mj_r251_0
set_option maxRecDepth 100000 in
set_option maxHeartbeats 8000000 in
theorem mj_q271 : mj_cr mj_m271 = true := by decide +kernel
set_option maxRecDepth 100000 in
set_option maxHeartbeats 8000000 in
theorem mj_q290_0 : mj_pc mj_m290 0 40 = true := by decide +kernel
set_option maxRecDepth 100000 in
set_option maxHeartbeats 8000000 in
theorem mj_q290_1 : mj_pc mj_m290 40 40 = true := by decide +kernel
set_option maxRecDepth 100000 in
theorem mj_q290_e : mj_cz mj_m290 ((mj_rw mj_m290).drop 80) 80 = true := by decide +kernel
theorem mj_r290_1 : mj_cz mj_m290 ((mj_rw mj_m290).drop 40) 40 = true := mj_pc_1 (y := mj_m290) (a := 40) (n := 40) mj_q290_1 mj_q290_e
theorem mj_r290_0 : mj_cz mj_m290 ((mj_rw mj_m290).drop 0) 0 = true := mj_pc_1 (y := mj_m290) (a := 0) (n := 40) mj_q290_0 mj_r290_1
theorem mj_q290 : mj_cr mj_m290 = true := mj_pc_0 mj_r290_0
set_option maxRecDepth 100000 in
set_option maxHeartbeats 8000000 in
theorem mj_q294 : mj_cr mj_m294 = true := by decide +kernel
set_option maxRecDepth 100000 in
set_option maxHeartbeats 8000000 in
theorem mj_q296 : mj_cr mj_m296 = true := by decide +kernel
set_option maxRecDepth 100000 in
set_option maxHeartbeats 8000000 in
theorem mj_q343_0 : mj_pc mj_m343 0 40 = true := by decide +kernel
set_option maxRecDepth 100000 in
set_option maxHeartbeats 8000000 in
theorem mj_q343_1 : mj_pc mj_m343 40 40 = true := by decide +kernel
set_option maxRecDepth 100000 in
set_option maxHeartbeats 8000000 in
theorem mj_q343_2 : mj_pc mj_m343 80 40 = true := by decide +kernel
set_option maxRecDepth 100000 in
theorem mj_q343_e : mj_cz mj_m343 ((mj_rw mj_m343).drop 120) 120 = true := by decide +kernel
theorem mj_r343_2 : mj_cz mj_m343 ((mj_rw mj_m343).drop 80) 80 = true := mj_pc_1 (y := mj_m343) (a := 80) (n := 40) mj_q343_2 mj_q343_e
theorem mj_r343_1 : mj_cz mj_m343 ((mj_rw mj_m343).drop 40) 40 = true := mj_pc_1 (y := mj_m343) (a := 40) (n := 40) mj_q343_1 mj_r343_2
theorem mj_r343_0 : mj_cz mj_m343 ((mj_rw mj_m343).drop 0) 0 = true := mj_pc_1 (y := mj_m343) (a := 0) (n := 40) mj_q343_0 mj_r343_1
theorem mj_q343 : mj_cr mj_m343 = true := mj_pc_0 mj_r343_0
set_option maxRecDepth 100000 in
set_option maxHeartbeats 8000000 in
theorem mj_q365_0 : mj_pc mj_m365 0 40 = true := by decide +kernel
set_option maxRecDepth 100000 in
set_option maxHeartbeats 8000000 in
theorem mj_q365_1 : mj_pc mj_m365 40 40 = true := by decide +kernel
set_option maxRecDepth 100000 in
set_option maxHeartbeats 8000000 in
theorem mj_q365_2 : mj_pc mj_m365 80 40 = true := by decide +kernel
set_option maxRecDepth 100000 in
theorem mj_q365_e : mj_cz mj_m365 ((mj_rw mj_m365).drop 120) 120 = true := by decide +kernel
theorem mj_r365_2 : mj_cz mj_m365 ((mj_rw mj_m365).drop 80) 80 = true := mj_pc_1 (y := mj_m365) (a := 80) (n := 40) mj_q365_2 mj_q365_e
theorem mj_r365_1 : mj_cz mj_m365 ((mj_rw mj_m365).drop 40) 40 = true := mj_pc_1 (y := mj_m365) (a := 40) (n := 40) mj_q365_1 mj_r365_2
theorem mj_r365_0 : mj_cz mj_m365 ((mj_rw mj_m365).drop 0) 0 = true := mj_pc_1 (y := mj_m365) (a := 0) (n := 40) mj_q365_0 mj_r365_1
theorem mj_q365 : mj_cr mj_m365 = true := mj_pc_0 mj_r365_0
end
