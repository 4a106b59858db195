/- g1.chk22 -/
section
set_option maxRecDepth 512
set_option maxRecDepth 100000 in
set_option maxHeartbeats 8000000 in
theorem mj_q6 : mj_cr mj_m6 = true := by decide +kernel
set_option maxRecDepth 100000 in
set_option maxHeartbeats 8000000 in
theorem mj_q34_0 : mj_pc mj_m34 0 40 = true := by decide +kernel
set_option maxRecDepth 100000 in
set_option maxHeartbeats 8000000 in
theorem mj_q34_1 : mj_pc mj_m34 40 40 = true := by decide +kernel
set_option maxRecDepth 100000 in
set_option maxHeartbeats 8000000 in
theorem mj_q34_2 : mj_pc mj_m34 80 40 = true := by decide +kernel
set_option maxRecDepth 100000 in
set_option maxHeartbeats 8000000 in
theorem mj_q34_3 : mj_pc mj_m34 120 40 = true := by decide +kernel
set_option maxRecDepth 100000 in
theorem mj_q34_e : mj_cz mj_m34 ((mj_rw mj_m34).drop 160) 160 = true := by decide +kernel
theorem mj_r34_3 : mj_cz mj_m34 ((mj_rw mj_m34).drop 120) 120 = true := mj_pc_1 (y := mj_m34) (a := 120) (n := 40) mj_q34_3 mj_q34_e
theorem mj_r34_2 : mj_cz mj_m34 ((mj_rw mj_m34).drop 80) 80 = true := mj_pc_1 (y := mj_m34) (a := 80) (n := 40) mj_q34_2 mj_r34_3
theorem mj_r34_1 : mj_cz mj_m34 ((mj_rw mj_m34).drop 40) 40 = true := mj_pc_1 (y := mj_m34) (a := 40) (n := 40) mj_q34_1 mj_r34_2
theorem mj_r34_0 : mj_cz mj_m34 ((mj_rw mj_m34).drop 0) 0 = true := mj_pc_1 (y := mj_m34) (a := 0) (n := 40) mj_q34_0 mj_r34_1
theorem mj_q34 : mj_cr mj_m34 = true := mj_pc_0 mj_r34_0
set_option maxRecDepth 100000 in
set_option maxHeartbeats 8000000 in
theorem mj_q41 : mj_cr mj_m41 = true := by decide +kernel
set_option maxRecDepth 100000 in
set_option maxHeartbeats 8000000 in
theorem mj_q105_0 : mj_pc mj_m105 0 40 = true := by decide +kernel
set_option maxRecDepth 100000 in
set_option maxHeartbeats 8000000 in
theorem mj_q105_1 : mj_pc mj_m105 40 40 = true := by decide +kernel
set_option maxRecDepth 100000 in
set_option maxHeartbeats 8000000 in
theorem mj_q105_2 : mj_pc mj_m105 80 40 = true := by decide +kernel
set_option maxRecDepth 100000 in
theorem mj_q105_e : mj_cz mj_m105 ((mj_rw mj_m105).drop 120) 120 = true := by decide +kernel
theorem mj_r105_2 : mj_cz mj_m105 ((mj_rw mj_m105).drop 80) 80 = true := mj_pc_1 (y := mj_m105) (a := 80) (n := 40) mj_q105_2 mj_q105_e
theorem mj_r105_1 : mj_cz mj_m105 ((mj_rw mj_m105).drop 40) 40 = true := mj_pc_1 (y := mj_m105) (a := 40) (n := 40) mj_q105_1 mj_r105_2
theorem mj_r105_0 : mj_cz mj_m105 ((mj_rw mj_m105).drop 0) 0 = true := mj_pc_1 (y := mj_m105) (a := 0) (n := 40) mj_q105_0 mj_r105_1
theorem mj_q105 : mj_cr mj_m105 = true := mj_pc_0 mj_r105_0
set_option maxRecDepth 100000 in
set_option maxHeartbeats 8000000 in
theorem mj_q112 : mj_cr mj_m112 = true := by decide +kernel
set_option maxRecDepth 100000 in
set_option maxHeartbeats 8000000 in
theorem mj_q145 : mj_cr mj_m145 = true := by decide +kernel
set_option maxRecDepth 100000 in
set_option maxHeartbeats 8000000 in
theorem mj_q181_0 : mj_pc mj_m181 0 40 = true := by decide +kernel
set_option maxRecDepth 100000 in
set_option maxHeartbeats 8000000 in
theorem mj_q181_1 : mj_pc mj_m181 40 40 = true := by decide +kernel
set_option maxRecDepth 100000 in
theorem mj_q181_e : mj_cz mj_m181 ((mj_rw mj_m181).drop 80) 80 = true := by decide +kernel
theorem mj_r181_1 : mj_cz mj_m181 ((mj_rw mj_m181).drop 40) 40 = true := mj_pc_1 (y := mj_m181) (a := 40) (n := 40) mj_q181_1 mj_q181_e
theorem mj_r181_0 : mj_cz mj_m181 ((mj_rw mj_m181).drop 0) 0 = true := mj_pc_1 (y := mj_m181) (a := 0) (n := 40) mj_q181_0 mj_r181_1
theorem mj_q181 : mj_cr mj_m181 = true := mj_pc_0 mj_r181_0
set_option maxRecDepth 100000 in
set_option maxHeartbeats 8000000 in
theorem mj_q190_0 : mj_pc mj_m190 0 40 = true := by decide +kernel
set_option maxRecDepth 100000 in
set_option maxHeartbeats 8000000 in
theorem mj_q190_1 : mj_pc mj_m190 40 40 = true := by decide +kernel
set_option maxRecDepth 100000 in
theorem mj_q190_e : mj_cz mj_m190 ((mj_rw mj_m190).drop 80) 80 = true := by decide +kernel
theorem mj_r190_1 : mj_cz mj_m190 ((mj_rw mj_m190).drop 40) 40 = true := mj_pc_1 (y := mj_m190) (a := 40) (n := 40) mj_q190_1 mj_q190_e
theorem mj_r190_0 : mj_cz mj_m190 ((mj_rw mj_m190).drop 0) 0 = true := mj_pc_1 (y := mj_m190) (a := 0) (n := 40) mj_q190_0 mj_r190_1
theorem mj_q190 : mj_cr mj_m190 = true := mj_pc_0 mj_r190_0
set_option maxRecDepth 100000 in
set_option maxHeartbeats 8000000 in
theorem mj_q202_0 : mj_pc mj_m202 0 40 = true := by decide +kernel
set_option maxRecDepth 100000 in
set_option maxHeartbeats 8000000 in
theorem mj_q202_1 : mj_pc mj_m202 40 40 = true := by decide +kernel
set_option maxRecDepth 100000 in
set_option maxHeartbeats 8000000 in
theorem mj_q202_2 : mj_pc mj_m202 80 40 = true := by decide +kernel
set_option maxRecDepth 100000 in
set_option maxHeartbeats 8000000 in
theorem mj_q202_3 : mj_pc mj_m202 120 40 = true := by decide +kernel
set_option maxRecDepth 100000 in
set_option maxHeartbeats 8000000 in
theorem mj_q202_4 : mj_pc mj_m202 160 40 = true := by decide +kernel
set_option maxRecDepth 100000 in
set_option maxHeartbeats 8000000 in
theorem mj_q202_5 : mj_pc mj_m202 200 40 = true := by decide +kernel
set_option maxRecDepth 100000 in
theorem mj_q202_e : mj_cz mj_m202 ((mj_rw mj_m202).drop 240) 240 = true := by decide +kernel
theorem mj_r202_5 : mj_cz mj_m202 ((mj_rw mj_m202).drop 200) 200 = true := mj_pc_1 (y := mj_m202) (a := 200) (n := 40) mj_q202_5 mj_q202_e
theorem mj_r202_4 : mj_cz mj_m202 ((mj_rw mj_m202).drop 160) 160 = true := mj_pc_1 (y := mj_m202) (a := 160) (n := 40) mj_q202_4 mj_r202_5
theorem mj_r202_3 : mj_cz mj_m202 ((mj_rw mj_m202).drop 120) 120 = true := mj_pc_1 (y := mj_m202) (a := 120) (n := 40) mj_q202_3 mj_r202_4
theorem mj_r202_2 : mj_cz mj_m202 ((mj_rw mj_m202).drop 80) 80 = true := mj_pc_1 (y := mj_m202) (a := 80) (n := 40) mj_q202_2 mj_r202_3
theorem mj_r202_1 : mj_cz mj_m202 ((mj_rw mj_m202).drop 40) 40 = true := mj_pc_1 (y := mj_m202) (a := 40) (n := 40) mj_q202_1 mj_r202_2
theorem mj_r202_0 : mj_cz mj_m202 ((mj_rw mj_m202).drop 0) 0 = true := mj_pc_1 (y := mj_m202) (a := 0) (n := 40) mj_q202_0 mj_r202_1
theorem mj_q202 : mj_cr mj_m202 = true := mj_pc_0 mj_r202_0
set_option maxRecDepth 100000 in
set_option maxHeartbeats 8000000 in
theorem mj_q203_0 : mj_pc mj_m203 0 40 = true := by decide +kernel
set_option maxRecDepth 100000 in
set_option maxHeartbeats 8000000 in
theorem mj_q203_1 : mj_pc mj_m203 40 40 = true := by decide +kernel
set_option maxRecDepth 100000 in
set_option maxHeartbeats 8000000 in
theorem mj_q203_2 : mj_pc mj_m203 80 40 = true := by decide +kernel
set_option maxRecDepth 100000 in
theorem mj_q203_e : mj_cz mj_m203 ((mj_rw mj_m203).drop 120) 120 = true := by decide +kernel
theorem mj_r203_2 : mj_cz mj_m203 ((mj_rw mj_m203).drop 80) 80 = true := mj_pc_1 (y := mj_m203) (a := 80) (n := 40) mj_q203_2 mj_q203_e
theorem mj_r203_1 : mj_cz mj_m203 ((mj_rw mj_m203).drop 40) 40 = true := mj_pc_1 (y := mj_m203) (a := 40) (n := 40) mj_q203_1 mj_r203_2
theorem mj_r203_0 : mj_cz mj_m203 ((mj_rw mj_m203).drop 0) 0 = true := mj_pc_1 (y := mj_m203) (a := 0) (n := 40) mj_q203_0 mj_r203_1
theorem mj_q203 : mj_cr mj_m203 = true := mj_pc_0 mj_r203_0
set_option maxRecDepth 100000 in
set_option maxHeartbeats 8000000 in
theorem mj_q204 : mj_cr mj_m204 = true := by decide +kernel
set_option maxRecDepth 100000 in
set_option maxHeartbeats 8000000 in
theorem mj_q215_0 : mj_pc mj_m215 0 40 = true := by decide +kernel
set_option maxRecDepth 100000 in
set_option maxHeartbeats 8000000 in
theorem mj_q215_1 : mj_pc mj_m215 40 40 = true := by decide +kernel
set_option maxRecDepth 100000 in
theorem mj_q215_e : mj_cz mj_m215 ((mj_rw mj_m215).drop 80) 80 = true := by decide +kernel
theorem mj_r215_1 : mj_cz mj_m215 ((mj_rw mj_m215).drop 40) 40 = true := mj_pc_1 (y := mj_m215) (a := 40) (n := 40) mj_q215_1 mj_q215_e
theorem mj_r215_0 : mj_cz mj_m215 ((mj_rw mj_m215).drop 0) 0 = true := mj_pc_1 (y := mj_m215) (a := 0) (n := 40) mj_q215_0 mj_r215_1
theorem mj_q215 : mj_cr mj_m215 = true := mj_pc_0 mj_r215_0
set_option maxRecDepth 100000 in
set_option maxHeartbeats 8000000 in
theorem mj_q222_0 : mj_pc mj_m222 0 40 = true := by decide +kernel
set_option maxRecDepth 100000 in
set_option maxHeartbeats 8000000 in
theorem mj_q222_1 : mj_pc mj_m222 40 40 = true := by decide +kernel
set_option maxRecDepth 100000 in
set_option maxHeartbeats 8000000 in
theorem mj_q222_2 : mj_pc mj_m222 80 40 = true := by decide +kernel
set_option maxRecDepth 100000 in
set_option maxHeartbeats 8000000 in
theorem mj_q222_3 : mj_pc mj_m222 120 40 = true := by decide +kernel
set_option maxRecDepth 100000 in
set_option maxHeartbeats 8000000 in
theorem mj_q222_4 : mj_pc mj_m222 160 40 = true := by decide +kernel
set_option maxRecDepth 100000 in
set_option maxHeartbeats 8000000 in
theorem mj_q222_5 : mj_pc mj_m222 200 40 = true := by decide +kernel
set_option maxRecDepth 100000 in
theorem mj_q222_e : mj_cz mj_m222 ((mj_rw mj_m222).drop 240) 240 = true := by decide +kernel
theorem mj_r222_5 : mj_cz mj_m222 ((mj_rw mj_m222).drop 200) 200 = true := mj_pc_1 (y := mj_m222) (a := 200) (n := 40) mj_q222_5 mj_q222_e
theorem mj_r222_4 : mj_cz mj_m222 ((mj_rw mj_m222).drop 160) 160 = true := mj_pc_1 (y := mj_m222) (a := 160) (n := 40) mj_q222_4 mj_r222_5
theorem mj_r222_3 : mj_cz mj_m222 ((mj_rw mj_m222).drop 120) 120 = true := mj_pc_1 (y := mj_m222) (a := 120) (n := 40) mj_q222_3 mj_r222_4
theorem mj_r222_2 : mj_cz mj_m222 ((mj_rw mj_m222).drop 80) 80 = true := mj_pc_1 (y := mj_m222) (a := 80) (n := 40) mj_q222_2 mj_r222_3
theorem mj_r222_1 : mj_cz mj_m222 ((mj_rw mj_m222).drop 40) 40 = true := mj_pc_1 (y := mj_m222) (a := 40) (n := 40) mj_q222_1 mj_r222_2
theorem mj_r222_0 : mj_cz mj_m222 ((mj_rw mj_m222).drop 0) 0 = true := mj_pc_1 (y := mj_m222) (a := 0) (n := 40) mj_q222_0 mj_r222_1
theorem mj_q222 : mj_cr mj_m222 = true := mj_pc_0 mj_r222_0
set_option maxRecDepth 100000 in
set_option maxHeartbeats 8000000 in
theorem mj_q298_0 : mj_pc mj_m298 0 40 = true := by decide +kernel
set_option maxRecDepth 100000 in
set_option maxHeartbeats 8000000 in
theorem mj_q298_1 : mj_pc mj_m298 40 40 = true := by decide +kernel
set_option maxRecDepth 100000 in
set_option maxHeartbeats 8000000 in
theorem mj_q298_2 : mj_pc mj_m298 80 40 = true := by decide +kernel
set_option maxRecDepth 100000 in
set_option maxHeartbeats 8000000 in
theorem mj_q298_3 : mj_pc mj_m298 120 40 = true := by decide +kernel
set_option maxRecDepth 100000 in
set_option maxHeartbeats 8000000 in
theorem mj_q298_4 : mj_pc mj_m298 160 40 = true := by decide +kernel
set_option maxRecDepth 100000 in
theorem mj_q298_e : mj_cz mj_m298 ((mj_rw mj_m298).drop 200) 200 = true := by decide +kernel
theorem mj_r298_4 : mj_cz mj_m298 ((mj_rw mj_m298).drop 160) 160 = true := mj_pc_1 (y := mj_m298) (a := 160) (n := 40) mj_q298_4 mj_q298_e
theorem mj_r298_3 : mj_cz mj_m298 ((mj_rw mj_m298).drop 120) 120 = true := mj_pc_1 (y := mj_m298) (a := 120) (n := 40) mj_q298_3 mj_r298_4
theorem mj_r298_2 : mj_cz mj_m298 ((mj_rw mj_m298).drop 80) 80 = true := mj_pc_1 (y := mj_m298) (a := 80) (n := 40) mj_q298_2 mj_r298_3
theorem mj_r298_1 : mj_cz mj_m298 ((mj_rw mj_m298).drop 40) 40 = true := mj_pc_1 (y := mj_m298) (a := 40) (n := 40) mj_q298_1 mj_r298_2
theorem mj_r298_0 : mj_cz mj_m298 ((mj_rw mj_m298).drop 0) 0 = true := mj_pc_1 (y := mj_m298) (a := 0) (n := 40) mj_q298_0 mj_r298_1
theorem mj_q298 : mj_cr mj_m298 = true := mj_pc_0 mj_r298_0
set_option maxRecDepth 100000 in
set_option maxHeartbeats 8000000 in
theorem mj_q303 : mj_cr mj_m303 = true := by decide +kernel
set_option maxRecDepth 100000 in
set_option maxHeartbeats 8000000 in
theorem mj_q342_0 : mj_pc mj_m342 0 40 = true := by decide +kernel
set_option maxRecDepth 100000 in
set_option maxHeartbeats 8000000 in
theorem mj_q342_1 : mj_pc mj_m342 40 40 = true := by decide +kernel
set_option maxRecDepth 100000 in
theorem mj_q342_e : mj_cz mj_m342 ((mj_rw mj_m342).drop 80) 80 = true := by decide +kernel
theorem mj_r342_1 : mj_cz mj_m342 ((mj_rw mj_m342).drop 40) 40 = true := mj_pc_1 (y := mj_m342) (a := 40) (n := 40) mj_q342_1 mj_q342_e
theorem mj_r342_0 : mj_cz mj_m342 ((mj_rw mj_m342).drop 0) 0 = true := mj_pc_1 (y := mj_m342) (a := 0) (n := 40) mj_q342_0 mj_r342_1
theorem mj_q342 : mj_cr mj_m342 = true := mj_pc_0 mj_r342_0
set_option maxRecDepth 100000 in
set_option maxHeartbeats 8000000 in
theorem mj_q345 : mj_cr mj_m345 = true := by decide +kernel
set_option maxRecDepth 100000 in
set_option maxHeartbeats 8000000 in
theorem mj_q351 : mj_cr mj_m351 = true := by decide +kernel
set_option maxRecDepth 100000 in
set_option maxHeartbeats 8000000 in
theorem mj_q356_0 : mj_pc mj_m356 0 40 = true := by decide +kernel
set_option maxRecDepth 100000 in
set_option maxHeartbeats 8000000 in
theorem mj_q356_1 : mj_pc mj_m356 40 40 = true := by decide +kernel
set_option maxRecDepth 100000 in
set_option maxHeartbeats 8000000 in
theorem mj_q356_2 : mj_pc mj_m356 80 40 = true := by decide +kernel
set_option maxRecDepth 100000 in
theorem mj_q356_e : mj_cz mj_m356 ((mj_rw mj_m356).drop 120) 120 = true := by decide +kernel
theorem mj_r356_2 : mj_cz mj_m356 ((mj_rw mj_m356).drop 80) 80 = true := mj_pc_1 (y := mj_m356) (a := 80) (n := 40) mj_q356_2 mj_q356_e
theorem mj_r356_1 : mj_cz mj_m356 ((mj_rw mj_m356).drop 40) 40 = true := mj_pc_1 (y := mj_m356) (a := 40) (n := 40) mj_q356_1 mj_r356_2
theorem mj_r356_0 : mj_cz mj_m356 ((mj_rw mj_m356).drop 0) 0 = true := mj_pc_1 (y := mj_m356) (a := 0) (n := 40) mj_q356_0 mj_r356_1
theorem mj_q356 : mj_cr mj_m356 = true := mj_pc_0 mj_r356_0
end
