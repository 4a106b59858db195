/- g1.chk13 -/
section
set_option maxRecDepth 512
set_option maxRecDepth 100000 in
set_option maxHeartbeats 8000000 in
theorem mj_q26 : mj_cr mj_m26 = true := by decide +kernel
set_option maxRecDepth 100000 in
set_option maxHeartbeats 8000000 in
theorem mj_q55_0 : mj_pc mj_m55 0 40 = true := by decide +kernel
set_option maxRecDepth 100000 in
set_option maxHeartbeats 8000000 in
theorem mj_q55_1 : mj_pc mj_m55 40 40 = true := by decide +kernel
set_option maxRecDepth 100000 in
set_option maxHeartbeats 8000000 in
theorem mj_q55_2 : mj_pc mj_m55 80 40 = true := by decide +kernel
set_option maxRecDepth 100000 in
set_option maxHeartbeats 8000000 in
theorem mj_q55_3 : mj_pc mj_m55 120 40 = true := by decide +kernel
set_option maxRecDepth 100000 in
theorem mj_q55_e : mj_cz mj_m55 ((mj_rw mj_m55).drop 160) 160 = true := by decide +kernel
theorem mj_r55_3 : mj_cz mj_m55 ((mj_rw mj_m55).drop 120) 120 = true := mj_pc_1 (y := mj_m55) (a := 120) (n := 40) mj_q55_3 mj_q55_e
theorem mj_r55_2 : mj_cz mj_m55 ((mj_rw mj_m55).drop 80) 80 = true := mj_pc_1 (y := mj_m55) (a := 80) (n := 40) mj_q55_2 mj_r55_3
theorem mj_r55_1 : mj_cz mj_m55 ((mj_rw mj_m55).drop 40) 40 = true := mj_pc_1 (y := mj_m55) (a := 40) (n := 40) mj_q55_1 mj_r55_2
theorem mj_r55_0 : mj_cz mj_m55 ((mj_rw mj_m55).drop 0) 0 = true := mj_pc_1 (y := mj_m55) (a := 0) (n := 40) mj_q55_0 mj_r55_1
theorem mj_q55 : mj_cr mj_m55 = true := mj_pc_0 mj_r55_0
set_option maxRecDepth 100000 in
set_option maxHeartbeats 8000000 in
theorem mj_q59_0 : mj_pc mj_m59 0 40 = true := by decide +kernel
set_option maxRecDepth 100000 in
set_option maxHeartbeats 8000000 in
theorem mj_q59_1 : mj_pc mj_m59 40 40 = true := by decide +kernel
set_option maxRecDepth 100000 in
theorem mj_q59_e : mj_cz mj_m59 ((mj_rw mj_m59).drop 80) 80 = true := by decide +kernel
theorem mj_r59_1 : mj_cz mj_m59 ((mj_rw mj_m59).drop 40) 40 = true := mj_pc_1 (y := mj_m59) (a := 40) (n := 40) mj_q59_1 mj_q59_e
theorem mj_r59_0 : mj_cz mj_m59 ((mj_rw mj_m59).drop 0) 0 = true := mj_pc_1 (y := mj_m59) (a := 0) (n := 40) mj_q59_0 mj_r59_1
theorem mj_q59 : mj_cr mj_m59 = true := mj_pc_0 mj_r59_0
set_option maxRecDepth 100000 in
set_option maxHeartbeats 8000000 in
theorem mj_q69 : mj_cr mj_m69 = true := by decide +kernel
set_option maxRecDepth 100000 in
set_option maxHeartbeats 8000000 in
theorem mj_q80 : mj_cr mj_m80 = true := by decide +kernel
set_option maxRecDepth 100000 in
set_option maxHeartbeats 8000000 in
theorem mj_q83_0 : mj_pc mj_m83 0 40 = true := by decide +kernel
set_option maxRecDepth 100000 in
set_option maxHeartbeats 8000000 in
theorem mj_q83_1 : mj_pc mj_m83 40 40 = true := by decide +kernel
set_option maxRecDepth 100000 in
set_option maxHeartbeats 8000000 in
theorem mj_q83_2 : mj_pc mj_m83 80 40 = true := by decide +kernel
set_option maxRecDepth 100000 in
set_option maxHeartbeats 8000000 in
theorem mj_q83_3 : mj_pc mj_m83 120 40 = true := by decide +kernel
set_option maxRecDepth 100000 in
set_option maxHeartbeats 8000000 in
theorem mj_q83_4 : mj_pc mj_m83 160 40 = true := by decide +kernel
set_option maxRecDepth 100000 in
theorem mj_q83_e : mj_cz mj_m83 ((mj_rw mj_m83).drop 200) 200 = true := by decide +kernel
theorem mj_r83_4 : mj_cz mj_m83 ((mj_rw mj_m83).drop 160) 160 = true := mj_pc_1 (y := mj_m83) (a := 160) (n := 40) mj_q83_4 mj_q83_e
theorem mj_r83_3 : mj_cz mj_m83 ((mj_rw mj_m83).drop 120) 120 = true := mj_pc_1 (y := mj_m83) (a := 120) (n := 40) mj_q83_3 mj_r83_4
theorem mj_r83_2 : mj_cz mj_m83 ((mj_rw mj_m83).drop 80) 80 = true := mj_pc_1 (y := mj_m83) (a := 80) (n := 40) mj_q83_2 mj_r83_3
theorem mj_r83_1 : mj_cz mj_m83 ((mj_rw mj_m83).drop 40) 40 = true := mj_pc_1 (y := mj_m83) (a := 40) (n := 40) mj_q83_1 mj_r83_2
theorem mj_r83_0 : mj_cz mj_m83 ((mj_rw mj_m83).drop 0) 0 = true := mj_pc_1 (y := mj_m83) (a := 0) (n := 40) mj_q83_0 mj_r83_1
theorem mj_q83 : mj_cr mj_m83 = true := mj_pc_0 mj_r83_0
set_option maxRecDepth 100000 in
set_option maxHeartbeats 8000000 in
theorem mj_q100 : mj_cr mj_m100 = true := by decide +kernel
set_option maxRecDepth 100000 in
set_option maxHeartbeats 8000000 in
theorem mj_q111 : mj_cr mj_m111 = true := by decide +kernel
set_option maxRecDepth 100000 in
set_option maxHeartbeats 8000000 in
theorem mj_q198 : mj_cr mj_m198 = true := by decide +kernel
set_option maxRecDepth 100000 in
set_option maxHeartbeats 8000000 in
theorem mj_q241 : mj_cr mj_m241 = true := by decide +kernel
set_option maxRecDepth 100000 in
set_option maxHeartbeats 8000000 in
theorem mj_q254 : mj_cr mj_m254 = true := by decide +kernel
set_option maxRecDepth 100000 in
set_option maxHeartbeats 8000000 in
theorem mj_q267_0 : mj_pc mj_m267 0 40 = true := by decide +kernel
set_option maxRecDepth 100000 in
set_option maxHeartbeats 8000000 in
theorem mj_q267_1 : mj_pc mj_m267 40 40 = true := by decide +kernel
set_option maxRecDepth 100000 in
set_option maxHeartbeats 8000000 in
theorem mj_q267_2 : mj_pc mj_m267 80 40 = true := by decide +kernel
set_option maxRecDepth 100000 in
theorem mj_q267_e : mj_cz mj_m267 ((mj_rw mj_m267).drop 120) 120 = true := by decide +kernel
theorem mj_r267_2 : mj_cz mj_m267 ((mj_rw mj_m267).drop 80) 80 = true := mj_pc_1 (y := mj_m267) (a := 80) (n := 40) mj_q267_2 mj_q267_e
theorem mj_r267_1 : mj_cz mj_m267 ((mj_rw mj_m267).drop 40) 40 = true := mj_pc_1 (y := mj_m267) (a := 40) (n := 40) mj_q267_1 mj_r267_2
theorem mj_r267_0 : mj_cz mj_m267 ((mj_rw mj_m267).drop 0) 0 = true := mj_pc_1 (y := mj_m267) (a := 0) (n := 40) mj_q267_0 mj_r267_1
theorem mj_q267 : mj_cr mj_m267 = true := mj_pc_0 mj_r267_0
set_option maxRecDepth 100000 in
set_option maxHeartbeats 8000000 in
theorem mj_q274_0 : mj_pc mj_m274 0 40 = true := by decide +kernel
set_option maxRecDepth 100000 in
set_option maxHeartbeats 8000000 in
theorem mj_q274_1 : mj_pc mj_m274 40 40 = true := by decide +kernel
set_option maxRecDepth 100000 in
theorem mj_q274_e : mj_cz mj_m274 ((mj_rw mj_m274).drop 80) 80 = true := by decide +kernel
theorem mj_r274_1 : mj_cz mj_m274 ((mj_rw mj_m274).drop 40) 40 = true := mj_pc_1 (y := mj_m274) (a := 40) (n := 40) mj_q274_1 mj_q274_e
theorem mj_r274_0 : mj_cz mj_m274 ((mj_rw mj_m274).drop 0) 0 = true := mj_pc_1 (y := mj_m274) (a := 0) (n := 40) mj_q274_0 mj_r274_1
theorem mj_q274 : mj_cr mj_m274 = true := mj_pc_0 mj_r274_0
set_option maxRecDepth 100000 in
set_option maxHeartbeats 8000000 in
theorem mj_q300_0 : mj_pc mj_m300 0 40 = true := by decide +kernel
set_option maxRecDepth 100000 in
set_option maxHeartbeats 8000000 in
theorem mj_q300_1 : mj_pc mj_m300 40 40 = true := by decide +kernel
set_option maxRecDepth 100000 in
theorem mj_q300_e : mj_cz mj_m300 ((mj_rw mj_m300).drop 80) 80 = true := by decide +kernel
theorem mj_r300_1 : mj_cz mj_m300 ((mj_rw mj_m300).drop 40) 40 = true := mj_pc_1 (y := mj_m300) (a := 40) (n := 40) mj_q300_1 mj_q300_e
theorem mj_r300_0 : mj_cz mj_m300 ((mj_rw mj_m300).drop 0) 0 = true := mj_pc_1 (y := mj_m300) (a := 0) (n := 40) mj_q300_0 mj_r300_1
theorem mj_q300 : mj_cr mj_m300 = true := mj_pc_0 mj_r300_0
set_option maxRecDepth 100000 in
set_option maxHeartbeats 8000000 in
theorem mj_q335_0 : mj_pc mj_m335 0 40 = true := by decide +kernel
set_option maxRecDepth 100000 in
set_option maxHeartbeats 8000000 in
theorem mj_q335_1 : mj_pc mj_m335 40 40 = true := by decide +kernel
set_option maxRecDepth 100000 in
theorem mj_q335_e : mj_cz mj_m335 ((mj_rw mj_m335).drop 80) 80 = true := by decide +kernel
theorem mj_r335_1 : mj_cz mj_m335 ((mj_rw mj_m335).drop 40) 40 = true := mj_pc_1 (y := mj_m335) (a := 40) (n := 40) mj_q335_1 mj_q335_e
theorem mj_r335_0 : mj_cz mj_m335 ((mj_rw mj_m335).drop 0) 0 = true := mj_pc_1 (y := mj_m335) (a := 0) (n := 40) mj_q335_0 mj_r335_1
theorem mj_q335 : mj_cr mj_m335 = true := mj_pc_0 mj_r335_0
set_option maxRecDepth 100000 in
set_option maxHeartbeats 8000000 in
theorem mj_q352_0 : mj_pc mj_m352 0 40 = true := by decide +kernel
set_option maxRecDepth 100000 in
set_option maxHeartbeats 8000000 in
theorem mj_q352_1 : mj_pc mj_m352 40 40 = true := by decide +kernel
set_option maxRecDepth 100000 in
set_option maxHeartbeats 8000000 in
theorem mj_q352_2 : mj_pc mj_m352 80 40 = true := by decide +kernel
set_option maxRecDepth 100000 in
theorem mj_q352_e : mj_cz mj_m352 ((mj_rw mj_m352).drop 120) 120 = true := by decide +kernel
theorem mj_r352_2 : mj_cz mj_m352 ((mj_rw mj_m352).drop 80) 80 = true := mj_pc_1 (y := mj_m352) (a := 80) (n := 40) mj_q352_2 mj_q352_e
theorem mj_r352_1 : mj_cz mj_m352 ((mj_rw mj_m352).drop 40) 40 = true := mj_pc_1 (y := mj_m352) (a := 40) (n := 40) mj_q352_1 mj_r352_2
theorem mj_r352_0 : mj_cz mj_m352 ((mj_rw mj_m352).drop 0) 0 = true := mj_pc_1 (y := mj_m352) (a := 0) (n := 40) mj_q352_0 mj_r352_1
theorem mj_q352 : mj_cr mj_m352 = true := mj_pc_0 mj_r352_0
set_option maxRecDepth 100000 in
set_option maxHeartbeats 8000000 in
theorem mj_q362_0 : mj_pc mj_m362 0 40 = true := by decide +kernel
set_option maxRecDepth 100000 in
set_option maxHeartbeats 8000000 in
theorem mj_q362_1 : mj_pc mj_m362 40 40 = true := by decide +kernel
set_option maxRecDepth 100000 in
theorem mj_q362_e : mj_cz mj_m362 ((mj_rw mj_m362).drop 80) 80 = true := by decide +kernel
theorem mj_r362_1 : mj_cz mj_m362 ((mj_rw mj_m362).drop 40) 40 = true := mj_pc_1 (y := mj_m362) (a := 40) (n := 40) mj_q362_1 mj_q362_e
theorem mj_r362_0 : mj_cz mj_m362 ((mj_rw mj_m362).drop 0) 0 = true := mj_pc_1 (y := mj_m362) (a := 0) (n := 40) mj_q362_0 mj_r362_1
theorem mj_q362 : mj_cr mj_m362 = true := mj_pc_0 mj_r362_0
set_option maxRecDepth 100000 in
set_option maxHeartbeats 8000000 in
theorem mj_q367_0 : mj_pc mj_m367 0 40 = true := by decide +kernel
set_option maxRecDepth 100000 in
set_option maxHeartbeats 8000000 in
theorem mj_q367_1 : mj_pc mj_m367 40 40 = true := by decide +kernel
set_option maxRecDepth 100000 in
set_option maxHeartbeats 8000000 in
theorem mj_q367_2 : mj_pc mj_m367 80 40 = true := by decide +kernel
set_option maxRecDepth 100000 in
set_option maxHeartbeats 8000000 in
theorem mj_q367_3 : mj_pc mj_m367 120 40 = true := by decide +kernel
set_option maxRecDepth 100000 in
set_option maxHeartbeats 8000000 in
theorem mj_q367_4 : mj_pc mj_m367 160 40 = true := by decide +kernel
set_option maxRecDepth 100000 in
set_option maxHeartbeats 8000000 in
theorem mj_q367_5 : mj_pc mj_m367 200 40 = true := by decide +kernel
set_option maxRecDepth 100000 in
set_option maxHeartbeats 8000000 in
theorem mj_q367_6 : mj_pc mj_m367 240 40 = true := by decide +kernel
set_option maxRecDepth 100000 in
set_option maxHeartbeats 8000000 in
theorem mj_q367_7 : mj_pc mj_m367 280 40 = true := by decide +kernel
set_option maxRecDepth 100000 in
set_option maxHeartbeats 8000000 in
theorem mj_q367_8 : mj_pc mj_m367 320 40 = true := by decide +kernel
set_option maxRecDepth 100000 in
theorem mj_q367_e : mj_cz mj_m367 ((mj_rw mj_m367).drop 360) 360 = true := by decide +kernel
theorem mj_r367_8 : mj_cz mj_m367 ((mj_rw mj_m367).drop 320) 320 = true := mj_pc_1 (y := mj_m367) (a := 320) (n := 40) mj_q367_8 mj_q367_e
theorem mj_r367_7 : mj_cz mj_m367 ((mj_rw mj_m367).drop 280) 280 = true := mj_pc_1 (y := mj_m367) (a := 280) (n := 40) mj_q367_7 mj_r367_8
theorem mj_r367_6 : mj_cz mj_m367 ((mj_rw mj_m367).drop 240) 240 = true := mj_pc_1 (y := mj_m367) (a := 240) (n := 40) mj_q367_6 mj_r367_7
theorem mj_r367_5 : mj_cz mj_m367 ((mj_rw mj_m367).drop 200) 200 = true := mj_pc_1 (y := mj_m367) (a := 200) (n := 40) mj_q367_5 mj_r367_6
theorem mj_r367_4 : mj_cz mj_m367 ((mj_rw mj_m367).drop 160) 160 = true := mj_pc_1 (y := mj_m367) (a := 160) (n := 40) mj_q367_4 mj_r367_5
theorem mj_r367_3 : mj_cz mj_m367 ((mj_rw mj_m367).drop 120) 120 = true := mj_pc_1 (y := mj_m367) (a := 120) (n := 40) mj_q367_3 mj_r367_4
theorem mj_r367_2 : mj_cz mj_m367 ((mj_rw mj_m367).drop 80) 80 = true := mj_pc_1 (y := mj_m367) (a := 80) (n := 40) mj_q367_2 mj_r367_3
theorem mj_r367_1 : mj_cz mj_m367 ((mj_rw mj_m367).drop 40) 40 = true := mj_pc_1 (y := mj_m367) (a := 40) (n := 40) mj_q367_1 mj_r367_2
theorem mj_r367_0 : mj_cz mj_m367 ((mj_rw mj_m367).drop 0) 0 = true := mj_pc_1 (y := mj_m367) (a := 0) (n := 40) mj_q367_0 mj_r367_1
theorem mj_q367 : mj_cr mj_m367 = true := mj_pc_0 mj_r367_0
end
