/- g1.chk12 -/
section
set_option maxRecDepth 512
set_option maxRecDepth 100000 in
set_option maxHeartbeats 8000000 in
theorem mj_q18 : mj_cr mj_m18 = true := by decide +kernel
set_option maxRecDepth 100000 in
set_option maxHeartbeats 8000000 in
theorem mj_q31_0 : mj_pc mj_m31 0 40 = true := by decide +kernel
set_option maxRecDepth 100000 in
set_option maxHeartbeats 8000000 in
theorem mj_q31_1 : mj_pc mj_m31 40 40 = true := by decide +kernel
set_option maxRecDepth 100000 in
theorem mj_q31_e : mj_cz mj_m31 ((mj_rw mj_m31).drop 80) 80 = true := by decide +kernel
theorem mj_r31_1 : mj_cz mj_m31 ((mj_rw mj_m31).drop 40) 40 = true := mj_pc_1 (y := mj_m31) (a := 40) (n := 40) mj_q31_1 mj_q31_e
theorem mj_r31_0 : mj_cz mj_m31 ((mj_rw mj_m31).drop 0) 0 = true := mj_pc_1 (y := mj_m31) (a := 0) (n := 40) mj_q31_0 mj_r31_1
theorem mj_q31 : mj_cr mj_m31 = true := mj_pc_0 mj_r31_0
set_option maxRecDepth 100000 in
set_option maxHeartbeats 8000000 in
theorem mj_q88 : mj_cr mj_m88 = true := by decide +kernel
set_option maxRecDepth 100000 in
set_option maxHeartbeats 8000000 in
theorem mj_q90_0 : mj_pc mj_m90 0 40 = true := by decide +kernel
set_option maxRecDepth 100000 in
set_option maxHeartbeats 8000000 in
theorem mj_q90_1 : mj_pc mj_m90 40 40 = true := by decide +kernel
set_option maxRecDepth 100000 in
theorem mj_q90_e : mj_cz mj_m90 ((mj_rw mj_m90).drop 80) 80 = true := by decide +kernel
theorem mj_r90_1 : mj_cz mj_m90 ((mj_rw mj_m90).drop 40) 40 = true := mj_pc_1 (y := mj_m90) (a := 40) (n := 40) mj_q90_1 mj_q90_e
theorem mj_r90_0 : mj_cz mj_m90 ((mj_rw mj_m90).drop 0) 0 = true := mj_pc_1 (y := mj_m90) (a := 0) (n := 40) mj_q90_0 mj_r90_1
theorem mj_q90 : mj_cr mj_m90 = true := mj_pc_0 mj_r90_0
set_option maxRecDepth 100000 in
set_option maxHeartbeats 8000000 in
theorem mj_q138 : mj_cr mj_m138 = true := by decide +kernel
set_option maxRecDepth 100000 in
set_option maxHeartbeats 8000000 in
theorem mj_q214_0 : mj_pc mj_m214 0 40 = true := by decide +kernel
set_option maxRecDepth 100000 in
set_option maxHeartbeats 8000000 in
theorem mj_q214_1 : mj_pc mj_m214 40 40 = true := by decide +kernel
set_option maxRecDepth 100000 in
set_option maxHeartbeats 8000000 in
theorem mj_q214_2 : mj_pc mj_m214 80 40 = true := by decide +kernel
set_option maxRecDepth 100000 in
theorem mj_q214_e : mj_cz mj_m214 ((mj_rw mj_m214).drop 120) 120 = true := by decide +kernel
theorem mj_r214_2 : mj_cz mj_m214 ((mj_rw mj_m214).drop 80) 80 = true := mj_pc_1 (y := mj_m214) (a := 80) (n := 40) mj_q214_2 mj_q214_e
theorem mj_r214_1 : mj_cz mj_m214 ((mj_rw mj_m214).drop 40) 40 = true := mj_pc_1 (y := mj_m214) (a := 40) (n := 40) mj_q214_1 mj_r214_2
theorem mj_r214_0 : mj_cz mj_m214 ((mj_rw mj_m214).drop 0) 0 = true := mj_pc_1 (y := mj_m214) (a := 0) (n := 40) mj_q214_0 mj_r214_1
theorem mj_q214 : mj_cr mj_m214 = true := mj_pc_0 mj_r214_0
set_option maxRecDepth 100000 in
set_option maxHeartbeats 8000000 in
theorem mj_q226_0 : mj_pc mj_m226 0 40 = true := by decide +kernel
set_option maxRecDepth 100000 in
set_option maxHeartbeats 8000000 in
theorem mj_q226_1 : mj_pc mj_m226 40 40 = true := by decide +kernel
set_option maxRecDepth 100000 in
set_option maxHeartbeats 8000000 in
theorem mj_q226_2 : mj_pc mj_m226 80 40 = true := by decide +kernel
set_option maxRecDepth 100000 in
set_option maxHeartbeats 8000000 in
theorem mj_q226_3 : mj_pc mj_m226 120 40 = true := by decide +kernel
set_option maxRecDepth 100000 in
set_option maxHeartbeats 8000000 in
theorem mj_q226_4 : mj_pc mj_m226 160 40 = true := by decide +kernel
set_option maxRecDepth 100000 in
theorem mj_q226_e : mj_cz mj_m226 ((mj_rw mj_m226).drop 200) 200 = true := by decide +kernel
theorem mj_r226_4 : mj_cz mj_m226 ((mj_rw mj_m226).drop 160) 160 = true := mj_pc_1 (y := mj_m226) (a := 160) (n := 40) mj_q226_4 mj_q226_e
theorem mj_r226_3 : mj_cz mj_m226 ((mj_rw mj_m226).drop 120) 120 = true := mj_pc_1 (y := mj_m226) (a := 120) (n := 40) mj_q226_3 mj_r226_4
theorem mj_r226_2 : mj_cz mj_m226 ((mj_rw mj_m226).drop 80) 80 = true := mj_pc_1 (y := mj_m226) (a := 80) (n := 40) mj_q226_2 mj_r226_3
theorem mj_r226_1 : mj_cz mj_m226 ((mj_rw mj_m226).drop 40) 40 = true := mj_pc_1 (y := mj_m226) (a := 40) (n := 40) mj_q226_1 mj_r226_2
theorem mj_r226_0 : mj_cz mj_m226 ((mj_rw mj_m226).drop 0) 0 = true := mj_pc_1 (y := mj_m226) (a := 0) (n := 40) mj_q226_0 mj_r226_1
theorem mj_q226 : mj_cr mj_m226 = true := mj_pc_0 mj_r226_0
set_option maxRecDepth 100000 in
set_option maxHeartbeats 8000000 in
theorem mj_q228_0 : mj_pc mj_m228 0 40 = true := by decide +kernel
set_option maxRecDepth 100000 in
set_option maxHeartbeats 8000000 in
theorem mj_q228_1 : mj_pc mj_m228 40 40 = true := by decide +kernel
set_option maxRecDepth 100000 in
theorem mj_q228_e : mj_cz mj_m228 ((mj_rw mj_m228).drop 80) 80 = true := by decide +kernel
theorem mj_r228_1 : mj_cz mj_m228 ((mj_rw mj_m228).drop 40) 40 = true := mj_pc_1 (y := mj_m228) (a := 40) (n := 40) mj_q228_1 mj_q228_e
theorem mj_r228_0 : mj_cz mj_m228 ((mj_rw mj_m228).drop 0) 0 = true := mj_pc_1 (y := mj_m228) (a := 0) (n := 40) mj_q228_0 mj_r228_1
theorem mj_q228 : mj_cr mj_m228 = true := mj_pc_0 mj_r228_0
set_option maxRecDepth 100000 in
set_option maxHeartbeats 8000000 in
theorem mj_q232 : mj_cr mj_m232 = true := by decide +kernel
set_option maxRecDepth 100000 in
set_option maxHeartbeats 8000000 in
theorem mj_q256_0 : mj_pc mj_m256 0 40 = true := by decide +kernel
set_option maxRecDepth 100000 in
set_option maxHeartbeats 8000000 in
theorem mj_q256_1 : mj_pc mj_m256 40 40 = true := by decide +kernel
set_option maxRecDepth 100000 in
set_option maxHeartbeats 8000000 in
theorem mj_q256_2 : mj_pc mj_m256 80 40 = true := by decide +kernel
set_option maxRecDepth 100000 in
set_option maxHeartbeats 8000000 in
theorem mj_q256_3 : mj_pc mj_m256 120 40 = true := by decide +kernel
set_option maxRecDepth 100000 in
set_option maxHeartbeats 8000000 in
theorem mj_q256_4 : mj_pc mj_m256 160 40 = true := by decide +kernel
set_option maxRecDepth 100000 in
set_option maxHeartbeats 8000000 in
theorem mj_q256_5 : mj_pc mj_m256 200 40 = true := by decide +kernel
set_option maxRecDepth 100000 in
set_option maxHeartbeats 8000000 in
theorem mj_q256_6 : mj_pc mj_m256 240 40 = true := by decide +kernel
set_option maxRecDepth 100000 in
set_option maxHeartbeats 8000000 in
theorem mj_q256_7 : mj_pc mj_m256 280 40 = true := by decide +kernel
set_option maxRecDepth 100000 in
set_option maxHeartbeats 8000000 in
theorem mj_q256_8 : mj_pc mj_m256 320 40 = true := by decide +kernel
set_option maxRecDepth 100000 in
theorem mj_q256_e : mj_cz mj_m256 ((mj_rw mj_m256).drop 360) 360 = true := by decide +kernel
theorem mj_r256_8 : mj_cz mj_m256 ((mj_rw mj_m256).drop 320) 320 = true := mj_pc_1 (y := mj_m256) (a := 320) (n := 40) mj_q256_8 mj_q256_e
theorem mj_r256_7 : mj_cz mj_m256 ((mj_rw mj_m256).drop 280) 280 = true := mj_pc_1 (y := mj_m256) (a := 280) (n := 40) mj_q256_7 mj_r256_8
theorem mj_r256_6 : mj_cz mj_m256 ((mj_rw mj_m256).drop 240) 240 = true := mj_pc_1 (y := mj_m256) (a := 240) (n := 40) mj_q256_6 mj_r256_7
theorem mj_r256_5 : mj_cz mj_m256 ((mj_rw mj_m256).drop 200) 200 = true := mj_pc_1 (y := mj_m256) (a := 200) (n := 40) mj_q256_5 mj_r256_6
theorem mj_r256_4 : mj_cz mj_m256 ((mj_rw mj_m256).drop 160) 160 = true := mj_pc_1 (y := mj_m256) (a := 160) (n := 40) mj_q256_4 mj_r256_5
theorem mj_r256_3 : mj_cz mj_m256 ((mj_rw mj_m256).drop 120) 120 = true := mj_pc_1 (y := mj_m256) (a := 120) (n := 40) mj_q256_3 mj_r256_4
theorem mj_r256_2 : mj_cz mj_m256 ((mj_rw mj_m256).drop 80) 80 = true := mj_pc_1 (y := mj_m256) (a := 80) (n := 40) mj_q256_2 mj_r256_3
theorem mj_r256_1 : mj_cz mj_m256 ((mj_rw mj_m256).drop 40) 40 = true := mj_pc_1 (y := mj_m256) (a := 40) (n := 40) mj_q256_1 mj_r256_2
theorem mj_r256_0 : mj_cz mj_m256 ((mj_rw mj_m256).drop 0) 0 = true := mj_pc_1 (y := mj_m256) (a := 0) (n := 40) mj_q256_0 mj_r256_1
theorem mj_q256 : mj_cr mj_m256 = true := mj_pc_0 mj_r256_0
set_option maxRecDepth 100000 in
set_option maxHeartbeats 8000000 in
theorem mj_q295 : mj_cr mj_m295 = true := by decide +kernel
set_option maxRecDepth 100000 in
set_option maxHeartbeats 8000000 in
theorem mj_q301_0 : mj_pc mj_m301 0 40 = true := by decide +kernel
set_option maxRecDepth 100000 in
set_option maxHeartbeats 8000000 in
theorem mj_q301_1 : mj_pc mj_m301 40 40 = true := by decide +kernel
set_option maxRecDepth 100000 in
set_option maxHeartbeats 8000000 in
theorem mj_q301_2 : mj_pc mj_m301 80 40 = true := by decide +kernel
set_option maxRecDepth 100000 in
theorem mj_q301_e : mj_cz mj_m301 ((mj_rw mj_m301).drop 120) 120 = true := by decide +kernel
theorem mj_r301_2 : mj_cz mj_m301 ((mj_rw mj_m301).drop 80) 80 = true := mj_pc_1 (y := mj_m301) (a := 80) (n := 40) mj_q301_2 mj_q301_e
theorem mj_r301_1 : mj_cz mj_m301 ((mj_rw mj_m301).drop 40) 40 = true := mj_pc_1 (y := mj_m301) (a := 40) (n := 40) mj_q301_1 mj_r301_2
theorem mj_r301_0 : mj_cz mj_m301 ((mj_rw mj_m301).drop 0) 0 = true := mj_pc_1 (y := mj_m301) (a := 0) (n := 40) mj_q301_0 mj_r301_1
theorem mj_q301 : mj_cr mj_m301 = true := mj_pc_0 mj_r301_0
set_option maxRecDepth 100000 in
set_option maxHeartbeats 8000000 in
theorem mj_q309 : mj_cr mj_m309 = true := by decide +kernel
set_option maxRecDepth 100000 in
set_option maxHeartbeats 8000000 in
theorem mj_q316 : mj_cr mj_m316 = true := by decide +kernel
set_option maxRecDepth 100000 in
set_option maxHeartbeats 8000000 in
theorem mj_q321 : mj_cr mj_m321 = true := by decide +kernel
set_option maxRecDepth 100000 in
set_option maxHeartbeats 8000000 in
theorem mj_q330 : mj_cr mj_m330 = true := by decide +kernel
set_option maxRecDepth 100000 in
set_option maxHeartbeats 8000000 in
theorem mj_q331_0 : mj_pc mj_m331 0 40 = true := by decide +kernel
set_option maxRecDepth 100000 in
set_option maxHeartbeats 8000000 in
theorem mj_q331_1 : mj_pc mj_m331 40 40 = true := by decide +kernel
set_option maxRecDepth 100000 in
theorem mj_q331_e : mj_cz mj_m331 ((mj_rw mj_m331).drop 80) 80 = true := by decide +kernel
theorem mj_r331_1 : mj_cz mj_m331 ((mj_rw mj_m331).drop 40) 40 = true := mj_pc_1 (y := mj_m331) (a := 40) (n := 40) mj_q331_1 mj_q331_e
theorem mj_r331_0 : mj_cz mj_m331 ((mj_rw mj_m331).drop 0) 0 = true := mj_pc_1 (y := mj_m331) (a := 0) (n := 40) mj_q331_0 mj_r331_1
theorem mj_q331 : mj_cr mj_m331 = true := mj_pc_0 mj_r331_0
set_option maxRecDepth 100000 in
set_option maxHeartbeats 8000000 in
theorem mj_q350_0 : mj_pc mj_m350 0 40 = true := by decide +kernel
set_option maxRecDepth 100000 in
set_option maxHeartbeats 8000000 in
theorem mj_q350_1 : mj_pc mj_m350 40 40 = true := by decide +kernel
set_option maxRecDepth 100000 in
theorem mj_q350_e : mj_cz mj_m350 ((mj_rw mj_m350).drop 80) 80 = true := by decide +kernel
theorem mj_r350_1 : mj_cz mj_m350 ((mj_rw mj_m350).drop 40) 40 = true := mj_pc_1 (y := mj_m350) (a := 40) (n := 40) mj_q350_1 mj_q350_e
theorem mj_r350_0 : mj_cz mj_m350 ((mj_rw mj_m350).drop 0) 0 = true := mj_pc_1 (y := mj_m350) (a := 0) (n := 40) mj_q350_0 mj_r350_1
theorem mj_q350 : mj_cr mj_m350 = true := mj_pc_0 mj_r350_0
set_option maxRecDepth 100000 in
set_option maxHeartbeats 8000000 in
theorem mj_q369_0 : mj_pc mj_m369 0 40 = true := by decide +kernel
set_option maxRecDepth 100000 in
set_option maxHeartbeats 8000000 in
theorem mj_q369_1 : mj_pc mj_m369 40 40 = true := by decide +kernel
set_option maxRecDepth 100000 in
set_option maxHeartbeats 8000000 in
theorem mj_q369_2 : mj_pc mj_m369 80 40 = true := by decide +kernel
set_option maxRecDepth 100000 in
set_option maxHeartbeats 8000000 in
theorem mj_q369_3 : mj_pc mj_m369 120 40 = true := by decide +kernel
set_option maxRecDepth 100000 in
theorem mj_q369_e : mj_cz mj_m369 ((mj_rw mj_m369).drop 160) 160 = true := by decide +kernel
theorem mj_r369_3 : mj_cz mj_m369 ((mj_rw mj_m369).drop 120) 120 = true := mj_pc_1 (y := mj_m369) (a := 120) (n := 40) mj_q369_3 mj_q369_e
theorem mj_r369_2 : mj_cz mj_m369 ((mj_rw mj_m369).drop 80) 80 = true := mj_pc_1 (y := mj_m369) (a := 80) (n := 40) mj_q369_2 mj_r369_3
theorem mj_r369_1 : mj_cz mj_m369 ((mj_rw mj_m369).drop 40) 40 = true := mj_pc_1 (y := mj_m369) (a := 40) (n := 40) mj_q369_1 mj_r369_2
theorem mj_r369_0 : mj_cz mj_m369 ((mj_rw mj_m369).drop 0) 0 = true := mj_pc_1 (y := mj_m369) (a := 0) (n := 40) mj_q369_0 mj_r369_1
theorem mj_q369 : mj_cr mj_m369 = true := mj_pc_0 mj_r369_0
end
