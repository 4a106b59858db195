/- g1.chk06 -/
section
set_option maxRecDepth 512
set_option maxRecDepth 100000 in
set_option maxHeartbeats 8000000 in
theorem mj_q7_0 : mj_pc mj_m7 0 40 = true := by decide +kernel
set_option maxRecDepth 100000 in
set_option maxHeartbeats 8000000 in
theorem mj_q7_1 : mj_pc mj_m7 40 40 = true := by decide +kernel
set_option maxRecDepth 100000 in
theorem mj_q7_e : mj_cz mj_m7 ((mj_rw mj_m7).drop 80) 80 = true := by decide +kernel
theorem mj_r7_1 : mj_cz mj_m7 ((mj_rw mj_m7).drop 40) 40 = true := mj_pc_1 (y := mj_m7) (a := 40) (n := 40) mj_q7_1 mj_q7_e
theorem mj_r7_0 : mj_cz mj_m7 ((mj_rw mj_m7).drop 0) 0 = true := mj_pc_1 (y := mj_m7) (a := 0) (n := 40) mj_q7_0 mj_r7_1
theorem mj_q7 : mj_cr mj_m7 = true := mj_pc_0 mj_r7_0
set_option maxRecDepth 100000 in
set_option maxHeartbeats 8000000 in
theorem mj_q24_0 : mj_pc mj_m24 0 40 = true := by decide +kernel
set_option maxRecDepth 100000 in
set_option maxHeartbeats 8000000 in
theorem mj_q24_1 : mj_pc mj_m24 40 40 = true := by decide +kernel
set_option maxRecDepth 100000 in
set_option maxHeartbeats 8000000 in
theorem mj_q24_2 : mj_pc mj_m24 80 40 = true := by decide +kernel
set_option maxRecDepth 100000 in
theorem mj_q24_e : mj_cz mj_m24 ((mj_rw mj_m24).drop 120) 120 = true := by decide +kernel
theorem mj_r24_2 : mj_cz mj_m24 ((mj_rw mj_m24).drop 80) 80 = true := mj_pc_1 (y := mj_m24) (a := 80) (n := 40) mj_q24_2 mj_q24_e
theorem mj_r24_1 : mj_cz mj_m24 ((mj_rw mj_m24).drop 40) 40 = true := mj_pc_1 (y := mj_m24) (a := 40) (n := 40) mj_q24_1 mj_r24_2
theorem mj_r24_0 : mj_cz mj_m24 ((mj_rw mj_m24).drop 0) 0 = true := mj_pc_1 (y := mj_m24) (a := 0) (n := 40) mj_q24_0 mj_r24_1
theorem mj_q24 : mj_cr mj_m24 = true := mj_pc_0 mj_r24_0
set_option maxRecDepth 100000 in
set_option maxHeartbeats 8000000 in
theorem mj_q40 : mj_cr mj_m40 = true := by decide +kernel
set_option maxRecDepth 100000 in
set_option maxHeartbeats 8000000 in
theorem mj_q46 : mj_cr mj_m46 = true := by decide +kernel
set_option maxRecDepth 100000 in
set_option maxHeartbeats 8000000 in
theorem mj_q47_0 : mj_pc mj_m47 0 40 = true := by decide +kernel
set_option maxRecDepth 100000 in
set_option maxHeartbeats 8000000 in
theorem mj_q47_1 : mj_pc mj_m47 40 40 = true := by decide +kernel
set_option maxRecDepth 100000 in
set_option maxHeartbeats 8000000 in
theorem mj_q47_2 : mj_pc mj_m47 80 40 = true := by decide +kernel
set_option maxRecDepth 100000 in
set_option maxHeartbeats 8000000 in
theorem mj_q47_3 : mj_pc mj_m47 120 40 = true := by decide +kernel
set_option maxRecDepth 100000 in
theorem mj_q47_e : mj_cz mj_m47 ((mj_rw mj_m47).drop 160) 160 = true := by decide +kernel
theorem mj_r47_3 : mj_cz mj_m47 ((mj_rw mj_m47).drop 120) 120 = true := mj_pc_1 (y := mj_m47) (a := 120) (n := 40) mj_q47_3 mj_q47_e
theorem mj_r47_2 : mj_cz mj_m47 ((mj_rw mj_m47).drop 80) 80 = true := mj_pc_1 (y := mj_m47) (a := 80) (n := 40) mj_q47_2 mj_r47_3
theorem mj_r47_1 : mj_cz mj_m47 ((mj_rw mj_m47).drop 40) 40 = true := mj_pc_1 (y := mj_m47) (a := 40) (n := 40) mj_q47_1 mj_r47_2
theorem mj_r47_0 : mj_cz mj_m47 ((mj_rw mj_m47).drop 0) 0 = true := mj_pc_1 (y := mj_m47) (a := 0) (n := 40) mj_q47_0 mj_r47_1
theorem mj_q47 : mj_cr mj_m47 = true := mj_pc_0 mj_r47_0
set_option maxRecDepth 100000 in
set_option maxHeartbeats 8000000 in
theorem mj_q63_0 : mj_pc mj_m63 0 40 = true := by decide +kernel
set_option maxRecDepth 100000 in
set_option maxHeartbeats 8000000 in
theorem mj_q63_1 : mj_pc mj_m63 40 40 = true := by decide +kernel
set_option maxRecDepth 100000 in
theorem mj_q63_e : mj_cz mj_m63 ((mj_rw mj_m63).drop 80) 80 = true := by decide +kernel
theorem mj_r63_1 : mj_cz mj_m63 ((mj_rw mj_m63).drop 40) 40 = true := mj_pc_1 (y := mj_m63) (a := 40) (n := 40) mj_q63_1 mj_q63_e
theorem mj_r63_0 : mj_cz mj_m63 ((mj_rw mj_m63).drop 0) 0 = true := mj_pc_1 (y := mj_m63) (a := 0) (n := 40) mj_q63_0 mj_r63_1
theorem mj_q63 : mj_cr mj_m63 = true := mj_pc_0 mj_r63_0
set_option maxRecDepth 100000 in
set_option maxHeartbeats 8000000 in
theorem mj_q65 : mj_cr mj_m65 = true := by decide +kernel
set_option maxRecDepth 100000 in
set_option maxHeartbeats 8000000 in
theorem mj_q76 : mj_cr mj_m76 = true := by decide +kernel
set_option maxRecDepth 100000 in
set_option maxHeartbeats 8000000 in
theorem mj_q92 : mj_cr mj_m92 = true := by decide +kernel
set_option maxRecDepth 100000 in
set_option maxHeartbeats 8000000 in
theorem mj_q114_0 : mj_pc mj_m114 0 40 = true := by decide +kernel
set_option maxRecDepth 100000 in
set_option maxHeartbeats 8000000 in
theorem mj_q114_1 : mj_pc mj_m114 40 40 = true := by decide +kernel
set_option maxRecDepth 100000 in
set_option maxHeartbeats 8000000 in
theorem mj_q114_2 : mj_pc mj_m114 80 40 = true := by decide +kernel
set_option maxRecDepth 100000 in
theorem mj_q114_e : mj_cz mj_m114 ((mj_rw mj_m114).drop 120) 120 = true := by decide +kernel
theorem mj_r114_2 : mj_cz mj_m114 ((mj_rw mj_m114).drop 80) 80 = true := mj_pc_1 (y := mj_m114) (a := 80) (n := 40) mj_q114_2 mj_q114_e
theorem mj_r114_1 : mj_cz mj_m114 ((mj_rw mj_m114).drop 40) 40 = true := mj_pc_1 (y := mj_m114) (a := 40) (n := 40) mj_q114_1 mj_r114_2
theorem mj_r114_0 : mj_cz mj_m114 ((mj_rw mj_m114).drop 0) 0 = true := mj_pc_1 (y := mj_m114) (a := 0) (n := 40) mj_q114_0 mj_r114_1
theorem mj_q114 : mj_cr mj_m114 = true := mj_pc_0 mj_r114_0
set_option maxRecDepth 100000 in
set_option maxHeartbeats 8000000 in
theorem mj_q236 : mj_cr mj_m236 = true := by decide +kernel
set_option maxRecDepth 100000 in
set_option maxHeartbeats 8000000 in
theorem mj_q250_0 : mj_pc mj_m250 0 40 = true := by decide +kernel
set_option maxRecDepth 100000 in
set_option maxHeartbeats 8000000 in
theorem mj_q250_1 : mj_pc mj_m250 40 40 = true := by decide +kernel
set_option maxRecDepth 100000 in
theorem mj_q250_e : mj_cz mj_m250 ((mj_rw mj_m250).drop 80) 80 = true := by decide +kernel
theorem mj_r250_1 : mj_cz mj_m250 ((mj_rw mj_m250).drop 40) 40 = true := mj_pc_1 (y := mj_m250) (a := 40) (n := 40) mj_q250_1 mj_q250_e
theorem mj_r250_0 : mj_cz mj_m250 ((mj_rw mj_m250).drop 0) 0 = true := mj_pc_1 (y := mj_m250) (a := 0) (n := 40) mj_q250_0 mj_r250_1
theorem mj_q250 : mj_cr mj_m250 = true := mj_pc_0 mj_r250_0
set_option maxRecDepth 100000 in
set_option maxHeartbeats 8000000 in
theorem mj_q260_0 : mj_pc mj_m260 0 40 = true := by decide +kernel
set_option maxRecDepth 100000 in
set_option maxHeartbeats 8000000 in
theorem mj_q260_1 : mj_pc mj_m260 40 40 = true := by decide +kernel
set_option maxRecDepth 100000 in
set_option maxHeartbeats 8000000 in
theorem mj_q260_2 : mj_pc mj_m260 80 40 = true := by decide +kernel
set_option maxRecDepth 100000 in
set_option maxHeartbeats 8000000 in
theorem mj_q260_3 : mj_pc mj_m260 120 40 = true := by decide +kernel
set_option maxRecDepth 100000 in
set_option maxHeartbeats 8000000 in
theorem mj_q260_4 : mj_pc mj_m260 160 40 = true := by decide +kernel
set_option maxRecDepth 100000 in
set_option maxHeartbeats 8000000 in
theorem mj_q260_5 : mj_pc mj_m260 200 40 = true := by decide +kernel
set_option maxRecDepth 100000 in
set_option maxHeartbeats 8000000 in
theorem mj_q260_6 : mj_pc mj_m260 240 40 = true := by decide +kernel
set_option maxRecDepth 100000 in
set_option maxHeartbeats 8000000 in
theorem mj_q260_7 : mj_pc mj_m260 280 40 = true := by decide +kernel
set_option maxRecDepth 100000 in
set_option maxHeartbeats 8000000 in
theorem mj_q260_8 : mj_pc mj_m260 320 40 = true := by decide +kernel
set_option maxRecDepth 100000 in
set_option maxHeartbeats 8000000 in
theorem mj_q260_9 : mj_pc mj_m260 360 40 = true := by decide +kernel
set_option maxRecDepth 100000 in
set_option maxHeartbeats 8000000 in
theorem mj_q260_10 : mj_pc mj_m260 400 40 = true := by decide +kernel
set_option maxRecDepth 100000 in
theorem mj_q260_e : mj_cz mj_m260 ((mj_rw mj_m260).drop 440) 440 = true := by decide +kernel
theorem mj_r260_10 : mj_cz mj_m260 ((mj_rw mj_m260).drop 400) 400 = true := mj_pc_1 (y := mj_m260) (a := 400) (n := 40) mj_q260_10 mj_q260_e
theorem mj_r260_9 : mj_cz mj_m260 ((mj_rw mj_m260).drop 360) 360 = true := mj_pc_1 (y := mj_m260) (a := 360) (n := 40) mj_q260_9 mj_r260_10
theorem mj_r260_8 : mj_cz mj_m260 ((mj_rw mj_m260).drop 320) 320 = true := mj_pc_1 (y := mj_m260) (a := 320) (n := 40) mj_q260_8 mj_r260_9
theorem mj_r260_7 : mj_cz mj_m260 ((mj_rw mj_m260).drop 280) 280 = true := mj_pc_1 (y := mj_m260) (a := 280) (n := 40) mj_q260_7 mj_r260_8
theorem mj_r260_6 : mj_cz mj_m260 ((mj_rw mj_m260).drop 240) 240 = true := mj_pc_1 (y := mj_m260) (a := 240) (n := 40) mj_q260_6 mj_r260_7
theorem mj_r260_5 : mj_cz mj_m260 ((mj_rw mj_m260).drop 200) 200 = true := mj_pc_1 (y := mj_m260) (a := 200) (n := 40) mj_q260_5 mj_r260_6
theorem mj_r260_4 : mj_cz mj_m260 ((mj_rw mj_m260).drop 160) 160 = true := mj_pc_1 (y := mj_m260) (a := 160) (n := 40) mj_q260_4 mj_r260_5
theorem mj_r260_3 : mj_cz mj_m260 ((mj_rw mj_m260).drop 120) 120 = true := mj_pc_1 (y := mj_m260) (a := 120) (n := 40) mj_q260_3 mj_r260_4
theorem mj_r260_2 : mj_cz mj_m260 ((mj_rw mj_m260).drop 80) 80 = true := mj_pc_1 (y := mj_m260) (a := 80) (n := 40) mj_q260_2 mj_r260_3
theorem mj_r260_1 : mj_cz mj_m260 ((mj_rw mj_m260).drop 40) 40 = true := mj_pc_1 (y := mj_m260) (a := 40) (n := 40) mj_q260_1 mj_r260_2
theorem mj_r260_0 : mj_cz mj_m260 ((mj_rw mj_m260).drop 0) 0 = true := mj_pc_1 (y := mj_m260) (a := 0) (n := 40) mj_q260_0 mj_r260_1
theorem mj_q260 : mj_cr mj_m260 = true := mj_pc_0 mj_r260_0
set_option maxRecDepth 100000 in
set_option maxHeartbeats 8000000 in
theorem mj_q276_0 : mj_pc mj_m276 0 40 = true := by decide +kernel
set_option maxRecDepth 100000 in
set_option maxHeartbeats 8000000 in
theorem mj_q276_1 : mj_pc mj_m276 40 40 = true := by decide +kernel
set_option maxRecDepth 100000 in
set_option maxHeartbeats 8000000 in
theorem mj_q276_2 : mj_pc mj_m276 80 40 = true := by decide +kernel
set_option maxRecDepth 100000 in
set_option maxHeartbeats 8000000 in
theorem mj_q276_3 : mj_pc mj_m276 120 40 = true := by decide +kernel
set_option maxRecDepth 100000 in
theorem mj_q276_e : mj_cz mj_m276 ((mj_rw mj_m276).drop 160) 160 = true := by decide +kernel
theorem mj_r276_3 : mj_cz mj_m276 ((mj_rw mj_m276).drop 120) 120 = true := mj_pc_1 (y := mj_m276) (a := 120) (n := 40) mj_q276_3 mj_q276_e
theorem mj_r276_2 : mj_cz mj_m276 ((mj_rw mj_m276).drop 80) 80 = true := mj_pc_1 (y := mj_m276) (a := 80) (n := 40) mj_q276_2 mj_r276_3
theorem mj_r276_1 : mj_cz mj_m276 ((mj_rw mj_m276).drop 40) 40 = true := mj_pc_1 (y := mj_m276) (a := 40) (n := 40) mj_q276_1 mj_r276_2
theorem mj_r276_0 : mj_cz mj_m276 ((mj_rw mj_m276).drop 0) 0 = true := mj_pc_1 (y := mj_m276) (a := 0) (n := 40) mj_q276_0 mj_r276_1
theorem mj_q276 : mj_cr mj_m276 = true := mj_pc_0 mj_r276_0
set_option maxRecDepth 100000 in
set_option maxHeartbeats 8000000 in
theorem mj_q302 : mj_cr mj_m302 = true := by decide +kernel
set_option maxRecDepth 100000 in
set_option maxHeartbeats 8000000 in
theorem mj_q315_0 : mj_pc mj_m315 0 40 = true := by decide +kernel
set_option maxRecDepth 100000 in
set_option maxHeartbeats 8000000 in
theorem mj_q315_1 : mj_pc mj_m315 40 40 = true := by decide +kernel
set_option maxRecDepth 100000 in
theorem mj_q315_e : mj_cz mj_m315 ((mj_rw mj_m315).drop 80) 80 = true := by decide +kernel
theorem mj_r315_1 : mj_cz mj_m315 ((mj_rw mj_m315).drop 40) 40 = true := mj_pc_1 (y := mj_m315) (a := 40) (n := 40) mj_q315_1 mj_q315_e
theorem mj_r315_0 : mj_cz mj_m315 ((mj_rw mj_m315).drop 0) 0 = true := mj_pc_1 (y := mj_m315) (a := 0) (n := 40) mj_q315_0 mj_r315_1
theorem mj_q315 : mj_cr mj_m315 = true := mj_pc_0 mj_r315_0
set_option maxRecDepth 100000 in
set_option maxHeartbeats 8000000 in
theorem mj_q363_0 : mj_pc mj_m363 0 40 = true := by decide +kernel
set_option maxRecDepth 100000 in
set_option maxHeartbeats 8000000 in
theorem mj_q363_1 : mj_pc mj_m363 40 40 = true := by decide +kernel
set_option maxRecDepth 100000 in
theorem mj_q363_e : mj_cz mj_m363 ((mj_rw mj_m363).drop 80) 80 = true := by decide +kernel
theorem mj_r363_1 : mj_cz mj_m363 ((mj_rw mj_m363).drop 40) 40 = true := mj_pc_1 (y := mj_m363) (a := 40) (n := 40) mj_q363_1 mj_q363_e
theorem mj_r363_0 : mj_cz mj_m363 ((mj_rw mj_m363).drop 0) 0 = true := mj_pc_1 (y := mj_m363) (a := 0) (n := 40) mj_q363_0 mj_r363_1
theorem mj_q363 : mj_cr mj_m363 = true := mj_pc_0 mj_r363_0
end
