/- g1.chk00 -/
section
set_option maxRecDepth 512
set_option maxRecDepth 100000 in
set_option maxHeartbeats 8000000 in
theorem mj_q380_0 : mj_pc mj_m380 0 40 = true := by decide +kernel
set_option maxRecDepth 100000 in
set_option maxHeartbeats 8000000 in
theorem mj_q380_1 : mj_pc mj_m380 40 40 = true := by decide +kernel
set_option maxRecDepth 100000 in
set_option maxHeartbeats 8000000 in
theorem mj_q380_2 : mj_pc mj_m380 80 40 = true := by decide +kernel
set_option maxRecDepth 100000 in
set_option maxHeartbeats 8000000 in
theorem mj_q380_3 : mj_pc mj_m380 120 40 = true := by decide +kernel
set_option maxRecDepth 100000 in
set_option maxHeartbeats 8000000 in
theorem mj_q380_4 : mj_pc mj_m380 160 40 = true := by decide +kernel
set_option maxRecDepth 100000 in
set_option maxHeartbeats 8000000 in
theorem mj_q380_5 : mj_pc mj_m380 200 40 = true := by decide +kernel
set_option maxRecDepth 100000 in
set_option maxHeartbeats 8000000 in
theorem mj_q380_6 : mj_pc mj_m380 240 40 = true := by decide +kernel
set_option maxRecDepth 100000 in
set_option maxHeartbeats 8000000 in
theorem mj_q380_7 : mj_pc mj_m380 280 40 = true := by decide +kernel
set_option maxRecDepth 100000 in
set_option maxHeartbeats 8000000 in
theorem mj_q380_8 : mj_pc mj_m380 320 40 = true := by decide +kernel
set_option maxRecDepth 100000 in
set_option maxHeartbeats 8000000 in
theorem mj_q380_9 : mj_pc mj_m380 360 40 = true := by decide +kernel
set_option maxRecDepth 100000 in
set_option maxHeartbeats 8000000 in
theorem mj_q380_10 : mj_pc mj_m380 400 40 = true := by decide +kernel
set_option maxRecDepth 100000 in
set_option maxHeartbeats 8000000 in
theorem mj_q380_11 : mj_pc mj_m380 440 40 = true := by decide +kernel
set_option maxRecDepth 100000 in
set_option maxHeartbeats 8000000 in
theorem mj_q380_12 : mj_pc mj_m380 480 40 = true := by decide +kernel
set_option maxRecDepth 100000 in
set_option maxHeartbeats 8000000 in
theorem mj_q380_13 : mj_pc mj_m380 520 40 = true := by decide +kernel
set_option maxRecDepth 100000 in
set_option maxHeartbeats 8000000 in
theorem mj_q380_14 : mj_pc mj_m380 560 40 = true := by decide +kernel
set_option maxRecDepth 100000 in
set_option maxHeartbeats 8000000 in
theorem mj_q380_15 : mj_pc mj_m380 600 40 = true := by decide +kernel
set_option maxRecDepth 100000 in
set_option maxHeartbeats 8000000 in
theorem mj_q380_16 : mj_pc mj_m380 640 40 = true := by decide +kernel
set_option maxRecDepth 100000 in
set_option maxHeartbeats 8000000 in
theorem mj_q380_17 : mj_pc mj_m380 680 40 = true := by decide +kernel
set_option maxRecDepth 100000 in
set_option maxHeartbeats 8000000 in
theorem mj_q380_18 : mj_pc mj_m380 720 40 = true := by decide +kernel
set_option maxRecDepth 100000 in
set_option maxHeartbeats 8000000 in
theorem mj_q380_19 : mj_pc mj_m380 760 40 = true := by decide +kernel
set_option maxRecDepth 100000 in
set_option maxHeartbeats 8000000 in
theorem mj_q380_20 : mj_pc mj_m380 800 40 = true := by decide +kernel
set_option maxRecDepth 100000 in
set_option maxHeartbeats 8000000 in
theorem mj_q380_21 : mj_pc mj_m380 840 40 = true := by decide +kernel
set_option maxRecDepth 100000 in
set_option maxHeartbeats 8000000 in
theorem mj_q380_22 : mj_pc mj_m380 880 40 = true := by decide +kernel
set_option maxRecDepth 100000 in
set_option maxHeartbeats 8000000 in
theorem mj_q380_23 : mj_pc mj_m380 920 40 = true := by decide +kernel
set_option maxRecDepth 100000 in
set_option maxHeartbeats 8000000 in
theorem mj_q380_24 : mj_pc mj_m380 960 40 = true := by decide +kernel
set_option maxRecDepth 100000 in
set_option maxHeartbeats 8000000 in
theorem mj_q380_25 : mj_pc mj_m380 1000 40 = true := by decide +kernel
set_option maxRecDepth 100000 in
set_option maxHeartbeats 8000000 in
theorem mj_q380_26 : mj_pc mj_m380 1040 40 = true := by decide +kernel
set_option maxRecDepth 100000 in
set_option maxHeartbeats 8000000 in
theorem mj_q380_27 : mj_pc mj_m380 1080 40 = true := by decide +kernel
set_option maxRecDepth 100000 in
set_option maxHeartbeats 8000000 in
theorem mj_q380_28 : mj_pc mj_m380 1120 40 = true := by decide +kernel
set_option maxRecDepth 100000 in
set_option maxHeartbeats 8000000 in
theorem mj_q380_29 : mj_pc mj_m380 1160 40 = true := by decide +kernel
set_option maxRecDepth 100000 in
set_option maxHeartbeats 8000000 in
theorem mj_q380_30 : mj_pc mj_m380 1200 40 = true := by decide +kernel
set_option maxRecDepth 100000 in
set_option maxHeartbeats 8000000 in
theorem mj_q380_31 : mj_pc mj_m380 1240 40 = true := by decide +kernel
set_option maxRecDepth 100000 in
set_option maxHeartbeats 8000000 in
theorem mj_q380_32 : mj_pc mj_m380 1280 40 = true := by decide +kernel
set_option maxRecDepth 100000 in
set_option maxHeartbeats 8000000 in
theorem mj_q380_33 : mj_pc mj_m380 1320 40 = true := by decide +kernel
set_option maxRecDepth 100000 in
set_option maxHeartbeats 8000000 in
theorem mj_q380_34 : mj_pc mj_m380 1360 40 = true := by decide +kernel
set_option maxRecDepth 100000 in
set_option maxHeartbeats 8000000 in
theorem mj_q380_35 : mj_pc mj_m380 1400 40 = true := by decide +kernel
set_option maxRecDepth 100000 in
set_option maxHeartbeats 8000000 in
theorem mj_q380_36 : mj_pc mj_m380 1440 40 = true := by decide +kernel
set_option maxRecDepth 100000 in
set_option maxHeartbeats 8000000 in
theorem mj_q380_37 : mj_pc mj_m380 1480 40 = true := by decide +kernel
set_option maxRecDepth 100000 in
set_option maxHeartbeats 8000000 in
theorem mj_q380_38 : mj_pc mj_m380 1520 40 = true := by decide +kernel
set_option maxRecDepth 100000 in
theorem mj_q380_e : mj_cz mj_m380 ((mj_rw mj_m380).drop 1560) 1560 = true := by decide +kernel
theorem mj_r380_38 : mj_cz mj_m380 ((mj_rw mj_m380).drop 1520) 1520 = true := mj_pc_1 (y := mj_m380) (a := 1520) (n := 40) mj_q380_38 mj_q380_e
theorem mj_r380_37 : mj_cz mj_m380 ((mj_rw mj_m380).drop 1480) 1480 = true := mj_pc_1 (y := mj_m380) (a := 1480) (n := 40) mj_q380_37 mj_r380_38
theorem mj_r380_36 : mj_cz mj_m380 ((mj_rw mj_m380).drop 1440) 1440 = true := mj_pc_1 (y := mj_m380) (a := 1440) (n := 40) mj_q380_36 mj_r380_37
theorem mj_r380_35 : mj_cz mj_m380 ((mj_rw mj_m380).drop 1400) 1400 = true := mj_pc_1 (y := mj_m380) (a := 1400) (n := 40) mj_q380_35 mj_r380_36
theorem mj_r380_34 : mj_cz mj_m380 ((mj_rw mj_m380).drop 1360) 1360 = true := mj_pc_1 (y := mj_m380) (a := 1360) (n := 40) mj_q380_34 mj_r380_35
theorem mj_r380_33 : mj_cz mj_m380 ((mj_rw mj_m380).drop 1320) 1320 = true := mj_pc_1 (y := mj_m380) (a := 1320) (n := 40) mj_q380_33 mj_r380_34
theorem mj_r380_32 : mj_cz mj_m380 ((mj_rw mj_m380).drop 1280) 1280 = true := mj_pc_1 (y := mj_m380) (a := 1280) (n := 40) mj_q380_32 mj_r380_33
theorem mj_r380_31 : mj_cz mj_m380 ((mj_rw mj_m380).drop 1240) 1240 = true := mj_pc_1 (y := mj_m380) (a := 1240) (n := 40) mj_q380_31 mj_r380_32
theorem mj_r380_30 : mj_cz mj_m380 ((mj_rw mj_m380).drop 1200) 1200 = true := mj_pc_1 (y := mj_m380) (a := 1200) (n := 40) mj_q380_30 mj_r380_31
theorem mj_r380_29 : mj_cz mj_m380 ((mj_rw mj_m380).drop 1160) 1160 = true := mj_pc_1 (y := mj_m380) (a := 1160) (n := 40) mj_q380_29 mj_r380_30
theorem mj_r380_28 : mj_cz mj_m380 ((mj_rw mj_m380).drop 1120) 1120 = true := mj_pc_1 (y := mj_m380) (a := 1120) (n := 40) mj_q380_28 mj_r380_29
theorem mj_r380_27 : mj_cz mj_m380 ((mj_rw mj_m380).drop 1080) 1080 = true := mj_pc_1 (y := mj_m380) (a := 1080) (n := 40) mj_q380_27 mj_r380_28
theorem mj_r380_26 : mj_cz mj_m380 ((mj_rw mj_m380).drop 1040) 1040 = true := mj_pc_1 (y := mj_m380) (a := 1040) (n := 40) mj_q380_26 mj_r380_27
theorem mj_r380_25 : mj_cz mj_m380 ((mj_rw mj_m380).drop 1000) 1000 = true := mj_pc_1 (y := mj_m380) (a := 1000) (n := 40) mj_q380_25 mj_r380_26
theorem mj_r380_24 : mj_cz mj_m380 ((mj_rw mj_m380).drop 960) 960 = true := mj_pc_1 (y := mj_m380) (a := 960) (n := 40) mj_q380_24 mj_r380_25
theorem mj_r380_23 : mj_cz mj_m380 ((mj_rw mj_m380).drop 920) 920 = true := mj_pc_1 (y := mj_m380) (a := 920) (n := 40) mj_q380_23 mj_r380_24
theorem mj_r380_22 : mj_cz mj_m380 ((mj_rw mj_m380).drop 880) 880 = true := mj_pc_1 (y := mj_m380) (a := 880) (n := 40) mj_q380_22 mj_r380_23
theorem mj_r380_21 : mj_cz mj_m380 ((mj_rw mj_m380).drop 840) 840 = true := mj_pc_1 (y := mj_m380) (a := 840) (n := 40) mj_q380_21 mj_r380_22
theorem mj_r380_20 : mj_cz mj_m380 ((mj_rw mj_m380).drop 800) 800 = true := mj_pc_1 (y := mj_m380) (a := 800) (n := 40) mj_q380_20 mj_r380_21
theorem mj_r380_19 : mj_cz mj_m380 ((mj_rw mj_m380).drop 760) 760 = true := mj_pc_1 (y := mj_m380) (a := 760) (n := 40) mj_q380_19 mj_r380_20
theorem mj_r380_18 : mj_cz mj_m380 ((mj_rw mj_m380).drop 720) 720 = true := mj_pc_1 (y := mj_m380) (a := 720) (n := 40) mj_q380_18 mj_r380_19
theorem mj_r380_17 : mj_cz mj_m380 ((mj_rw mj_m380).drop 680) 680 = true := mj_pc_1 (y := mj_m380) (a := 680) (n := 40) mj_q380_17 mj_r380_18
theorem mj_r380_16 : mj_cz mj_m380 ((mj_rw mj_m380).drop 640) 640 = true := mj_pc_1 (y := mj_m380) (a := 640) (n := 40) mj_q380_16 mj_r380_17
theorem mj_r380_15 : mj_cz mj_m380 ((mj_rw mj_m380).drop 600) 600 = true := mj_pc_1 (y := mj_m380) (a := 600) (n := 40) mj_q380_15 mj_r380_16
theorem mj_r380_14 : mj_cz mj_m380 ((mj_rw mj_m380).drop 560) 560 = true := mj_pc_1 (y := mj_m380) (a := 560) (n := 40) mj_q380_14 mj_r380_15
theorem mj_r380_13 : mj_cz mj_m380 ((mj_rw mj_m380).drop 520) 520 = true := mj_pc_1 (y := mj_m380) (a := 520) (n := 40) mj_q380_13 mj_r380_14
theorem mj_r380_12 : mj_cz mj_m380 ((mj_rw mj_m380).drop 480) 480 = true := mj_pc_1 (y := mj_m380) (a := 480) (n := 40) mj_q380_12 mj_r380_13
theorem mj_r380_11 : mj_cz mj_m380 ((mj_rw mj_m380).drop 440) 440 = true := mj_pc_1 (y := mj_m380) (a := 440) (n := 40) mj_q380_11 mj_r380_12
theorem mj_r380_10 : mj_cz mj_m380 ((mj_rw mj_m380).drop 400) 400 = true := mj_pc_1 (y := mj_m380) (a := 400) (n := 40) mj_q380_10 mj_r380_11
theorem mj_r380_9 : mj_cz mj_m380 ((mj_rw mj_m380).drop 360) 360 = true := mj_pc_1 (y := mj_m380) (a := 360) (n := 40) mj_q380_9 mj_r380_10
theorem mj_r380_8 : mj_cz mj_m380 ((mj_rw mj_m380).drop 320) 320 = true := mj_pc_1 (y := mj_m380) (a := 320) (n := 40) mj_q380_8 mj_r380_9
theorem mj_r380_7 : mj_cz mj_m380 ((mj_rw mj_m380).drop 280) 280 = true := mj_pc_1 (y := mj_m380) (a := 280) (n := 40) mj_q380_7 mj_r380_8
theorem mj_r380_6 : mj_cz mj_m380 ((mj_rw mj_m380).drop 240) 240 = true := mj_pc_1 (y := mj_m380) (a := 240) (n := 40) mj_q380_6 mj_r380_7
theorem mj_r380_5 : mj_cz mj_m380 ((mj_rw mj_m380).drop 200) 200 = true := mj_pc_1 (y := mj_m380) (a := 200) (n := 40) mj_q380_5 mj_r380_6
theorem mj_r380_4 : mj_cz mj_m380 ((mj_rw mj_m380).drop 160) 160 = true := mj_pc_1 (y := mj_m380) (a := 160) (n := 40) mj_q380_4 mj_r380_5
theorem mj_r380_3 : mj_cz mj_m380 ((mj_rw mj_m380).drop 120) 120 = true := mj_pc_1 (y := mj_m380) (a := 120) (n := 40) mj_q380_3 mj_r380_4
theorem mj_r380_2 : mj_cz mj_m380 ((mj_rw mj_m380).drop 80) 80 = true := mj_pc_1 (y := mj_m380) (a := 80) (n := 40) mj_q380_2 mj_r380_3
theorem mj_r380_1 : mj_cz mj_m380 ((mj_rw mj_m380).drop 40) 40 = true := mj_pc_1 (y := mj_m380) (a := 40) (n := 40) mj_q380_1 mj_r380_2
theorem mj_r380_0 : mj_cz mj_m380 ((mj_rw mj_m380).drop 0) 0 = true := mj_pc_1 (y := mj_m380) (a := 0) (n := 40) mj_q380_0 mj_r380_1
theorem mj_q380 : mj_cr mj_m380 = true := mj_pc_0 mj_r380_0
end
