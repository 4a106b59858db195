/- g1.chk17 -/
section
set_option maxRecDepth 512
set_option maxRecDepth 100000 in
set_option maxHeartbeats 8000000 in
theorem mj_q3 : mj_cr mj_m3 = true := by decide +kernel
set_option maxRecDepth 100000 in
set_option maxHeartbeats 8000000 in
theorem mj_q68 : mj_cr mj_m68 = true := by decide +kernel
set_option maxRecDepth 100000 in
set_option maxHeartbeats 8000000 in
theorem mj_q77 : mj_cr mj_m77 = true := by decide +kernel
set_option maxRecDepth 100000 in
set_option maxHeartbeats 8000000 in
theorem mj_q82_0 : mj_pc mj_m82 0 40 = true := by decide +kernel
set_option maxRecDepth 100000 in
set_option maxHeartbeats 8000000 in
theorem mj_q82_1 : mj_pc mj_m82 40 40 = true := by decide +kernel
set_option maxRecDepth 100000 in
set_option maxHeartbeats 8000000 in
theorem mj_q82_2 : mj_pc mj_m82 80 40 = true := by decide +kernel
set_option maxRecDepth 100000 in
set_option maxHeartbeats 8000000 in
theorem mj_q82_3 : mj_pc mj_m82 120 40 = true := by decide +kernel
set_option maxRecDepth 100000 in
set_option maxHeartbeats 8000000 in
theorem mj_q82_4 : mj_pc mj_m82 160 40 = true := by decide +kernel
set_option maxRecDepth 100000 in
set_option maxHeartbeats 8000000 in
theorem mj_q82_5 : mj_pc mj_m82 200 40 = true := by decide +kernel
set_option maxRecDepth 100000 in
set_option maxHeartbeats 8000000 in
theorem mj_q82_6 : mj_pc mj_m82 240 40 = true := by decide +kernel
set_option maxRecDepth 100000 in
set_option maxHeartbeats 8000000 in
theorem mj_q82_7 : mj_pc mj_m82 280 40 = true := by decide +kernel
set_option maxRecDepth 100000 in
theorem mj_q82_e : mj_cz mj_m82 ((mj_rw mj_m82).drop 320) 320 = true := by decide +kernel
theorem mj_r82_7 : mj_cz mj_m82 ((mj_rw mj_m82).drop 280) 280 = true := mj_pc_1 (y := mj_m82) (a := 280) (n := 40) mj_q82_7 mj_q82_e
theorem mj_r82_6 : mj_cz mj_m82 ((mj_rw mj_m82).drop 240) 240 = true := mj_pc_1 (y := mj_m82) (a := 240) (n := 40) mj_q82_6 mj_r82_7
theorem mj_r82_5 : mj_cz mj_m82 ((mj_rw mj_m82).drop 200) 200 = true := mj_pc_1 (y := mj_m82) (a := 200) (n := 40) mj_q82_5 mj_r82_6
theorem mj_r82_4 : mj_cz mj_m82 ((mj_rw mj_m82).drop 160) 160 = true := mj_pc_1 (y := mj_m82) (a := 160) (n := 40) mj_q82_4 mj_r82_5
theorem mj_r82_3 : mj_cz mj_m82 ((mj_rw mj_m82).drop 120) 120 = true := mj_pc_1 (y := mj_m82) (a := 120) (n := 40) mj_q82_3 mj_r82_4
theorem mj_r82_2 : mj_cz mj_m82 ((mj_rw mj_m82).drop 80) 80 = true := mj_pc_1 (y := mj_m82) (a := 80) (n := 40) mj_q82_2 mj_r82_3
theorem mj_r82_1 : mj_cz mj_m82 ((mj_rw mj_m82).drop 40) 40 = true := mj_pc_1 (y := mj_m82) (a := 40) (n := 40) mj_q82_1 mj_r82_2
theorem mj_r82_0 : mj_cz mj_m82 ((mj_rw mj_m82).drop 0) 0 = true := mj_pc_1 (y := mj_m82) (a := 0) (n := 40) mj_q82_0 mj_r82_1
theorem mj_q82 : mj_cr mj_m82 = true := mj_pc_0 mj_r82_0
set_option maxRecDepth 100000 in
set_option maxHeartbeats 8000000 in
theorem mj_q91_0 : mj_pc mj_m91 0 40 = true := by decide +kernel
set_option maxRecDepth 100000 in
set_option maxHeartbeats 8000000 in
theorem mj_q91_1 : mj_pc mj_m91 40 40 = true := by decide +kernel
set_option maxRecDepth 100000 in
theorem mj_q91_e : mj_cz mj_m91 ((mj_rw mj_m91).drop 80) 80 = true := by decide +kernel
theorem mj_r91_1 : mj_cz mj_m91 ((mj_rw mj_m91).drop 40) 40 = true := mj_pc_1 (y := mj_m91) (a := 40) (n := 40) mj_q91_1 mj_q91_e
theorem mj_r91_0 : mj_cz mj_m91 ((mj_rw mj_m91).drop 0) 0 = true := mj_pc_1 (y := mj_m91) (a := 0) (n := 40) mj_q91_0 mj_r91_1
theorem mj_q91 : mj_cr mj_m91 = true := mj_pc_0 mj_r91_0
set_option maxRecDepth 100000 in
set_option maxHeartbeats 8000000 in
theorem mj_q109 : mj_cr mj_m109 = true := by decide +kernel
set_option maxRecDepth 100000 in
set_option maxHeartbeats 8000000 in
theorem mj_q116_0 : mj_pc mj_m116 0 40 = true := by decide +kernel
set_option maxRecDepth 100000 in
set_option maxHeartbeats 8000000 in
theorem mj_q116_1 : mj_pc mj_m116 40 40 = true := by decide +kernel
set_option maxRecDepth 100000 in
set_option maxHeartbeats 8000000 in
theorem mj_q116_2 : mj_pc mj_m116 80 40 = true := by decide +kernel
set_option maxRecDepth 100000 in
theorem mj_q116_e : mj_cz mj_m116 ((mj_rw mj_m116).drop 120) 120 = true := by decide +kernel
theorem mj_r116_2 : mj_cz mj_m116 ((mj_rw mj_m116).drop 80) 80 = true := mj_pc_1 (y := mj_m116) (a := 80) (n := 40) mj_q116_2 mj_q116_e
theorem mj_r116_1 : mj_cz mj_m116 ((mj_rw mj_m116).drop 40) 40 = true := mj_pc_1 (y := mj_m116) (a := 40) (n := 40) mj_q116_1 mj_r116_2
theorem mj_r116_0 : mj_cz mj_m116 ((mj_rw mj_m116).drop 0) 0 = true := mj_pc_1 (y := mj_m116) (a := 0) (n := 40) mj_q116_0 mj_r116_1
theorem mj_q116 : mj_cr mj_m116 = true := mj_pc_0 mj_r116_0
set_option maxRecDepth 100000 in
set_option maxHeartbeats 8000000 in
theorem mj_q119_0 : mj_pc mj_m119 0 40 = true := by decide +kernel
set_option maxRecDepth 100000 in
set_option maxHeartbeats 8000000 in
theorem mj_q119_1 : mj_pc mj_m119 40 40 = true := by decide +kernel
set_option maxRecDepth 100000 in
set_option maxHeartbeats 8000000 in
theorem mj_q119_2 : mj_pc mj_m119 80 40 = true := by decide +kernel
set_option maxRecDepth 100000 in
theorem mj_q119_e : mj_cz mj_m119 ((mj_rw mj_m119).drop 120) 120 = true := by decide +kernel
theorem mj_r119_2 : mj_cz mj_m119 ((mj_rw mj_m119).drop 80) 80 = true := mj_pc_1 (y := mj_m119) (a := 80) (n := 40) mj_q119_2 mj_q119_e
theorem mj_r119_1 : mj_cz mj_m119 ((mj_rw mj_m119).drop 40) 40 = true := mj_pc_1 (y := mj_m119) (a := 40) (n := 40) mj_q119_1 mj_r119_2
theorem mj_r119_0 : mj_cz mj_m119 ((mj_rw mj_m119).drop 0) 0 = true := mj_pc_1 (y := mj_m119) (a := 0) (n := 40) mj_q119_0 mj_r119_1
theorem mj_q119 : mj_cr mj_m119 = true := mj_pc_0 mj_r119_0
set_option maxRecDepth 100000 in
set_option maxHeartbeats 8000000 in
theorem mj_q131_0 : mj_pc mj_m131 0 40 = true := by decide +kernel
set_option maxRecDepth 100000 in
set_option maxHeartbeats 8000000 in
theorem mj_q131_1 : mj_pc mj_m131 40 40 = true := by decide +kernel
set_option maxRecDepth 100000 in
theorem mj_q131_e : mj_cz mj_m131 ((mj_rw mj_m131).drop 80) 80 = true := by decide +kernel
theorem mj_r131_1 : mj_cz mj_m131 ((mj_rw mj_m131).drop 40) 40 = true := mj_pc_1 (y := mj_m131) (a := 40) (n := 40) mj_q131_1 mj_q131_e
theorem mj_r131_0 : mj_cz mj_m131 ((mj_rw mj_m131).drop 0) 0 = true := mj_pc_1 (y := mj_m131) (a := 0) (n := 40) mj_q131_0 mj_r131_1
theorem mj_q131 : mj_cr mj_m131 = true := mj_pc_0 mj_r131_0
set_option maxRecDepth 100000 in
set_option maxHeartbeats 8000000 in
theorem mj_q169 : mj_cr mj_m169 = true := by decide +kernel
set_option maxRecDepth 100000 in
set_option maxHeartbeats 8000000 in
theorem mj_q193_0 : mj_pc mj_m193 0 40 = true := by decide +kernel
set_option maxRecDepth 100000 in
set_option maxHeartbeats 8000000 in
theorem mj_q193_1 : mj_pc mj_m193 40 40 = true := by decide +kernel
set_option maxRecDepth 100000 in
theorem mj_q193_e : mj_cz mj_m193 ((mj_rw mj_m193).drop 80) 80 = true := by decide +kernel
theorem mj_r193_1 : mj_cz mj_m193 ((mj_rw mj_m193).drop 40) 40 = true := mj_pc_1 (y := mj_m193) (a := 40) (n := 40) mj_q193_1 mj_q193_e
theorem mj_r193_0 : mj_cz mj_m193 ((mj_rw mj_m193).drop 0) 0 = true := mj_pc_1 (y := mj_m193) (a := 0) (n := 40) mj_q193_0 mj_r193_1
theorem mj_q193 : mj_cr mj_m193 = true := mj_pc_0 mj_r193_0
set_option maxRecDepth 100000 in
set_option maxHeartbeats 8000000 in
theorem mj_q212 : mj_cr mj_m212 = true := by decide +kernel
set_option maxRecDepth 100000 in
set_option maxHeartbeats 8000000 in
theorem mj_q229_0 : mj_pc mj_m229 0 40 = true := by decide +kernel
set_option maxRecDepth 100000 in
set_option maxHeartbeats 8000000 in
theorem mj_q229_1 : mj_pc mj_m229 40 40 = true := by decide +kernel
set_option maxRecDepth 100000 in
theorem mj_q229_e : mj_cz mj_m229 ((mj_rw mj_m229).drop 80) 80 = true := by decide +kernel
theorem mj_r229_1 : mj_cz mj_m229 ((mj_rw mj_m229).drop 40) 40 = true := mj_pc_1 (y := mj_m229) (a := 40) (n := 40) mj_q229_1 mj_q229_e
theorem mj_r229_0 : mj_cz mj_m229 ((mj_rw mj_m229).drop 0) 0 = true := mj_pc_1 (y := mj_m229) (a := 0) (n := 40) mj_q229_0 mj_r229_1
theorem mj_q229 : mj_cr mj_m229 = true := mj_pc_0 mj_r229_0
set_option maxRecDepth 100000 in
set_option maxHeartbeats 8000000 in
theorem mj_q239_0 : mj_pc mj_m239 0 40 = true := by decide +kernel
set_option maxRecDepth 100000 in
set_option maxHeartbeats 8000000 in
theorem mj_q239_1 : mj_pc mj_m239 40 40 = true := by decide +kernel
set_option maxRecDepth 100000 in
set_option maxHeartbeats 8000000 in
theorem mj_q239_2 : mj_pc mj_m239 80 40 = true := by decide +kernel
set_option maxRecDepth 100000 in
set_option maxHeartbeats 8000000 in
theorem mj_q239_3 : mj_pc mj_m239 120 40 = true := by decide +kernel
set_option maxRecDepth 100000 in
set_option maxHeartbeats 8000000 in
theorem mj_q239_4 : mj_pc mj_m239 160 40 = true := by decide +kernel
set_option maxRecDepth 100000 in
set_option maxHeartbeats 8000000 in
theorem mj_q239_5 : mj_pc mj_m239 200 40 = true := by decide +kernel
set_option maxRecDepth 100000 in
theorem mj_q239_e : mj_cz mj_m239 ((mj_rw mj_m239).drop 240) 240 = true := by decide +kernel
theorem mj_r239_5 : mj_cz mj_m239 ((mj_rw mj_m239).drop 200) 200 = true := mj_pc_1 (y := mj_m239) (a := 200) (n := 40) mj_q239_5 mj_q239_e
theorem mj_r239_4 : mj_cz mj_m239 ((mj_rw mj_m239).drop 160) 160 = true := mj_pc_1 (y := mj_m239) (a := 160) (n := 40) mj_q239_4 mj_r239_5
theorem mj_r239_3 : mj_cz mj_m239 ((mj_rw mj_m239).drop 120) 120 = true := mj_pc_1 (y := mj_m239) (a := 120) (n := 40) mj_q239_3 mj_r239_4
theorem mj_r239_2 : mj_cz mj_m239 ((mj_rw mj_m239).drop 80) 80 = true := mj_pc_1 (y := mj_m239) (a := 80) (n := 40) mj_q239_2 mj_r239_3
theorem mj_r239_1 : mj_cz mj_m239 ((mj_rw mj_m239).drop 40) 40 = true := mj_pc_1 (y := mj_m239) (a := 40) (n := 40) mj_q239_1 mj_r239_2
theorem mj_r239_0 : mj_cz mj_m239 ((mj_rw mj_m239).drop 0) 0 = true := mj_pc_1 (y := mj_m239) (a := 0) (n := 40) mj_q239_0 mj_r239_1
theorem mj_q239 : mj_cr mj_m239 = true := mj_pc_0 mj_r239_0
set_option maxRecDepth 100000 in
set_option maxHeartbeats 8000000 in
theorem mj_q246_0 : mj_pc mj_m246 0 40 = true := by decide +kernel
set_option maxRecDepth 100000 in
set_option maxHeartbeats 8000000 in
theorem mj_q246_1 : mj_pc mj_m246 40 40 = true := by decide +kernel
set_option maxRecDepth 100000 in
theorem mj_q246_e : mj_cz mj_m246 ((mj_rw mj_m246).drop 80) 80 = true := by decide +kernel
theorem mj_r246_1 : mj_cz mj_m246 ((mj_rw mj_m246).drop 40) 40 = true := mj_pc_1 (y := mj_m246) (a := 40) (n := 40) mj_q246_1 mj_q246_e
theorem mj_r246_0 : mj_cz mj_m246 ((mj_rw mj_m246).drop 0) 0 = true := mj_pc_1 (y := mj_m246) (a := 0) (n := 40) mj_q246_0 mj_r246_1
theorem mj_q246 : mj_cr mj_m246 = true := mj_pc_0 mj_r246_0
set_option maxRecDepth 100000 in
set_option maxHeartbeats 8000000 in
theorem mj_q279 : mj_cr mj_m279 = true := by decide +kernel
set_option maxRecDepth 100000 in
set_option maxHeartbeats 8000000 in
theorem mj_q325 : mj_cr mj_m325 = true := by decide +kernel
set_option maxRecDepth 100000 in
set_option maxHeartbeats 8000000 in
theorem mj_q329_0 : mj_pc mj_m329 0 40 = true := by decide +kernel
set_option maxRecDepth 100000 in
set_option maxHeartbeats 8000000 in
theorem mj_q329_1 : mj_pc mj_m329 40 40 = true := by decide +kernel
set_option maxRecDepth 100000 in
set_option maxHeartbeats 8000000 in
theorem mj_q329_2 : mj_pc mj_m329 80 40 = true := by decide +kernel
set_option maxRecDepth 100000 in
set_option maxHeartbeats 8000000 in
theorem mj_q329_3 : mj_pc mj_m329 120 40 = true := by decide +kernel
set_option maxRecDepth 100000 in
set_option maxHeartbeats 8000000 in
theorem mj_q329_4 : mj_pc mj_m329 160 40 = true := by decide +kernel
set_option maxRecDepth 100000 in
theorem mj_q329_e : mj_cz mj_m329 ((mj_rw mj_m329).drop 200) 200 = true := by decide +kernel
theorem mj_r329_4 : mj_cz mj_m329 ((mj_rw mj_m329).drop 160) 160 = true := mj_pc_1 (y := mj_m329) (a := 160) (n := 40) mj_q329_4 mj_q329_e
theorem mj_r329_3 : mj_cz mj_m329 ((mj_rw mj_m329).drop 120) 120 = true := mj_pc_1 (y := mj_m329) (a := 120) (n := 40) mj_q329_3 mj_r329_4
theorem mj_r329_2 : mj_cz mj_m329 ((mj_rw mj_m329).drop 80) 80 = true := mj_pc_1 (y := mj_m329) (a := 80) (n := 40) mj_q329_2 mj_r329_3
theorem mj_r329_1 : mj_cz mj_m329 ((mj_rw mj_m329).drop 40) 40 = true := mj_pc_1 (y := mj_m329) (a := 40) (n := 40) mj_q329_1 mj_r329_2
theorem mj_r329_0 : mj_cz mj_m329 ((mj_rw mj_m329).drop 0) 0 = true := mj_pc_1 (y := mj_m329) (a := 0) (n := 40) mj_q329_0 mj_r329_1
theorem mj_q329 : mj_cr mj_m329 = true := mj_pc_0 mj_r329_0
set_option maxRecDepth 100000 in
set_option maxHeartbeats 8000000 in
theorem mj_q373_0 : mj_pc mj_m373 0 40 = true := by decide +kernel
set_option maxRecDepth 100000 in
set_option maxHeartbeats 8000000 in
theorem mj_q373_1 : mj_pc mj_m373 40 40 = true := by decide +kernel
set_option maxRecDepth 100000 in
set_option maxHeartbeats 8000000 in
theorem mj_q373_2 : mj_pc mj_m373 80 40 = true := by decide +kernel
set_option maxRecDepth 100000 in
set_option maxHeartbeats 8000000 in
theorem mj_q373_3 : mj_pc mj_m373 120 40 = true := by decide +kernel
set_option maxRecDepth 100000 in
theorem mj_q373_e : mj_cz mj_m373 ((mj_rw mj_m373).drop 160) 160 = true := by decide +kernel
theorem mj_r373_3 : mj_cz mj_m373 ((mj_rw mj_m373).drop 120) 120 = true := mj_pc_1 (y := mj_m373) (a := 120) (n := 40) mj_q373_3 mj_q373_e
theorem mj_r373_2 : mj_cz mj_m373 ((mj_rw mj_m373).drop 80) 80 = true := mj_pc_1 (y := mj_m373) (a := 80) (n := 40) mj_q373_2 mj_r373_3
theorem mj_r373_1 : mj_cz mj_m373 ((mj_rw mj_m373).drop 40) 40 = true := mj_pc_1 (y := mj_m373) (a := 40) (n := 40) mj_q373_1 mj_r373_2
theorem mj_r373_0 : mj_cz mj_m373 ((mj_rw mj_m373).drop 0) 0 = true := mj_pc_1 (y := mj_m373) (a := 0) (n := 40) mj_q373_0 mj_r373_1
theorem mj_q373 : mj_cr mj_m373 = true := mj_pc_0 mj_r373_0
end
