/- g1.chk08 -/
section
set_option maxRecDepth 512
set_option maxRecDepth 100000 in
set_option maxHeartbeats 8000000 in
theorem mj_q11 : mj_cr mj_m11 = true := by decide +kernel
set_option maxRecDepth 100000 in
set_option maxHeartbeats 8000000 in
theorem mj_q29 : mj_cr mj_m29 = true := by decide +kernel
set_option maxRecDepth 100000 in
set_option maxHeartbeats 8000000 in
theorem mj_q60_0 : mj_pc mj_m60 0 40 = true := by decide +kernel
set_option maxRecDepth 100000 in
set_option maxHeartbeats 8000000 in
theorem mj_q60_1 : mj_pc mj_m60 40 40 = true := by decide +kernel
set_option maxRecDepth 100000 in
theorem mj_q60_e : mj_cz mj_m60 ((mj_rw mj_m60).drop 80) 80 = true := by decide +kernel
theorem mj_r60_1 : mj_cz mj_m60 ((mj_rw mj_m60).drop 40) 40 = true := mj_pc_1 (y := mj_m60) (a := 40) (n := 40) mj_q60_1 mj_q60_e
theorem mj_r60_0 : mj_cz mj_m60 ((mj_rw mj_m60).drop 0) 0 = true := mj_pc_1 (y := mj_m60) (a := 0) (n := 40) mj_q60_0 mj_r60_1
theorem mj_q60 : mj_cr mj_m60 = true := mj_pc_0 mj_r60_0
set_option maxRecDepth 100000 in
set_option maxHeartbeats 8000000 in
theorem mj_q70 : mj_cr mj_m70 = true := by decide +kernel
set_option maxRecDepth 100000 in
set_option maxHeartbeats 8000000 in
theorem mj_q79_0 : mj_pc mj_m79 0 40 = true := by decide +kernel
set_option maxRecDepth 100000 in
set_option maxHeartbeats 8000000 in
theorem mj_q79_1 : mj_pc mj_m79 40 40 = true := by decide +kernel
set_option maxRecDepth 100000 in
set_option maxHeartbeats 8000000 in
theorem mj_q79_2 : mj_pc mj_m79 80 40 = true := by decide +kernel
set_option maxRecDepth 100000 in
theorem mj_q79_e : mj_cz mj_m79 ((mj_rw mj_m79).drop 120) 120 = true := by decide +kernel
theorem mj_r79_2 : mj_cz mj_m79 ((mj_rw mj_m79).drop 80) 80 = true := mj_pc_1 (y := mj_m79) (a := 80) (n := 40) mj_q79_2 mj_q79_e
theorem mj_r79_1 : mj_cz mj_m79 ((mj_rw mj_m79).drop 40) 40 = true := mj_pc_1 (y := mj_m79) (a := 40) (n := 40) mj_q79_1 mj_r79_2
theorem mj_r79_0 : mj_cz mj_m79 ((mj_rw mj_m79).drop 0) 0 = true := mj_pc_1 (y := mj_m79) (a := 0) (n := 40) mj_q79_0 mj_r79_1
theorem mj_q79 : mj_cr mj_m79 = true := mj_pc_0 mj_r79_0
set_option maxRecDepth 100000 in
set_option maxHeartbeats 8000000 in
theorem mj_q81_0 : mj_pc mj_m81 0 40 = true := by decide +kernel
set_option maxRecDepth 100000 in
set_option maxHeartbeats 8000000 in
theorem mj_q81_1 : mj_pc mj_m81 40 40 = true := by decide +kernel
set_option maxRecDepth 100000 in
set_option maxHeartbeats 8000000 in
theorem mj_q81_2 : mj_pc mj_m81 80 40 = true := by decide +kernel
set_option maxRecDepth 100000 in
set_option maxHeartbeats 8000000 in
theorem mj_q81_3 : mj_pc mj_m81 120 40 = true := by decide +kernel
set_option maxRecDepth 100000 in
set_option maxHeartbeats 8000000 in
theorem mj_q81_4 : mj_pc mj_m81 160 40 = true := by decide +kernel
set_option maxRecDepth 100000 in
theorem mj_q81_e : mj_cz mj_m81 ((mj_rw mj_m81).drop 200) 200 = true := by decide +kernel
theorem mj_r81_4 : mj_cz mj_m81 ((mj_rw mj_m81).drop 160) 160 = true := mj_pc_1 (y := mj_m81) (a := 160) (n := 40) mj_q81_4 mj_q81_e
theorem mj_r81_3 : mj_cz mj_m81 ((mj_rw mj_m81).drop 120) 120 = true := mj_pc_1 (y := mj_m81) (a := 120) (n := 40) mj_q81_3 mj_r81_4
theorem mj_r81_2 : mj_cz mj_m81 ((mj_rw mj_m81).drop 80) 80 = true := mj_pc_1 (y := mj_m81) (a := 80) (n := 40) mj_q81_2 mj_r81_3
theorem mj_r81_1 : mj_cz mj_m81 ((mj_rw mj_m81).drop 40) 40 = true := mj_pc_1 (y := mj_m81) (a := 40) (n := 40) mj_q81_1 mj_r81_2
theorem mj_r81_0 : mj_cz mj_m81 ((mj_rw mj_m81).drop 0) 0 = true := mj_pc_1 (y := mj_m81) (a := 0) (n := 40) mj_q81_0 mj_r81_1
theorem mj_q81 : mj_cr mj_m81 = true := mj_pc_0 mj_r81_0
set_option maxRecDepth 100000 in
set_option maxHeartbeats 8000000 in
theorem mj_q86_0 : mj_pc mj_m86 0 40 = true := by decide +kernel
set_option maxRecDepth 100000 in
set_option maxHeartbeats 8000000 in
theorem mj_q86_1 : mj_pc mj_m86 40 40 = true := by decide +kernel
set_option maxRecDepth 100000 in
set_option maxHeartbeats 8000000 in
theorem mj_q86_2 : mj_pc mj_m86 80 40 = true := by decide +kernel
set_option maxRecDepth 100000 in
set_option maxHeartbeats 8000000 in
theorem mj_q86_3 : mj_pc mj_m86 120 40 = true := by decide +kernel
set_option maxRecDepth 100000 in
set_option maxHeartbeats 8000000 in
theorem mj_q86_4 : mj_pc mj_m86 160 40 = true := by decide +kernel
set_option maxRecDepth 100000 in
set_option maxHeartbeats 8000000 in
theorem mj_q86_5 : mj_pc mj_m86 200 40 = true := by decide +kernel
set_option maxRecDepth 100000 in
set_option maxHeartbeats 8000000 in
theorem mj_q86_6 : mj_pc mj_m86 240 40 = true := by decide +kernel
set_option maxRecDepth 100000 in
set_option maxHeartbeats 8000000 in
theorem mj_q86_7 : mj_pc mj_m86 280 40 = true := by decide +kernel
set_option maxRecDepth 100000 in
set_option maxHeartbeats 8000000 in
theorem mj_q86_8 : mj_pc mj_m86 320 40 = true := by decide +kernel
set_option maxRecDepth 100000 in
set_option maxHeartbeats 8000000 in
theorem mj_q86_9 : mj_pc mj_m86 360 40 = true := by decide +kernel
set_option maxRecDepth 100000 in
theorem mj_q86_e : mj_cz mj_m86 ((mj_rw mj_m86).drop 400) 400 = true := by decide +kernel
theorem mj_r86_9 : mj_cz mj_m86 ((mj_rw mj_m86).drop 360) 360 = true := mj_pc_1 (y := mj_m86) (a := 360) (n := 40) mj_q86_9 mj_q86_e
theorem mj_r86_8 : mj_cz mj_m86 ((mj_rw mj_m86).drop 320) 320 = true := mj_pc_1 (y := mj_m86) (a := 320) (n := 40) mj_q86_8 mj_r86_9
theorem mj_r86_7 : mj_cz mj_m86 ((mj_rw mj_m86).drop 280) 280 = true := mj_pc_1 (y := mj_m86) (a := 280) (n := 40) mj_q86_7 mj_r86_8
theorem mj_r86_6 : mj_cz mj_m86 ((mj_rw mj_m86).drop 240) 240 = true := mj_pc_1 (y := mj_m86) (a := 240) (n := 40) mj_q86_6 mj_r86_7
theorem mj_r86_5 : mj_cz mj_m86 ((mj_rw mj_m86).drop 200) 200 = true := mj_pc_1 (y := mj_m86) (a := 200) (n := 40) mj_q86_5 mj_r86_6
theorem mj_r86_4 : mj_cz mj_m86 ((mj_rw mj_m86).drop 160) 160 = true := mj_pc_1 (y := mj_m86) (a := 160) (n := 40) mj_q86_4 mj_r86_5
theorem mj_r86_3 : mj_cz mj_m86 ((mj_rw mj_m86).drop 120) 120 = true := mj_pc_1 (y := mj_m86) (a := 120) (n := 40) mj_q86_3 mj_r86_4
theorem mj_r86_2 : mj_cz mj_m86 ((mj_rw mj_m86).drop 80) 80 = true := mj_pc_1 (y := mj_m86) (a := 80) (n := 40) mj_q86_2 mj_r86_3
theorem mj_r86_1 : mj_cz mj_m86 ((mj_rw mj_m86).drop 40) 40 = true := mj_pc_1 (y := mj_m86) (a := 40) (n := 40) mj_q86_1 mj_r86_2
theorem mj_r86_0 : mj_cz mj_m86 ((mj_rw mj_m86).drop 0) 0 = true := mj_pc_1 (y := mj_m86) (a := 0) (n := 40) mj_q86_0 mj_r86_1
theorem mj_q86 : mj_cr mj_m86 = true := mj_pc_0 mj_r86_0
set_option maxRecDepth 100000 in
set_option maxHeartbeats 8000000 in
theorem mj_q130 : mj_cr mj_m130 = true := by decide +kernel
set_option maxRecDepth 100000 in
set_option maxHeartbeats 8000000 in
theorem mj_q183 : mj_cr mj_m183 = true := by decide +kernel
set_option maxRecDepth 100000 in
set_option maxHeartbeats 8000000 in
theorem mj_q195_0 : mj_pc mj_m195 0 40 = true := by decide +kernel
set_option maxRecDepth 100000 in
set_option maxHeartbeats 8000000 in
theorem mj_q195_1 : mj_pc mj_m195 40 40 = true := by decide +kernel
set_option maxRecDepth 100000 in
theorem mj_q195_e : mj_cz mj_m195 ((mj_rw mj_m195).drop 80) 80 = true := by decide +kernel
theorem mj_r195_1 : mj_cz mj_m195 ((mj_rw mj_m195).drop 40) 40 = true := mj_pc_1 (y := mj_m195) (a := 40) (n := 40) mj_q195_1 mj_q195_e
theorem mj_r195_0 : mj_cz mj_m195 ((mj_rw mj_m195).drop 0) 0 = true := mj_pc_1 (y := mj_m195) (a := 0) (n := 40) mj_q195_0 mj_r195_1
theorem mj_q195 : mj_cr mj_m195 = true := mj_pc_0 mj_r195_0
set_option maxRecDepth 100000 in
set_option maxHeartbeats 8000000 in
theorem mj_q210_0 : mj_pc mj_m210 0 40 = true := by decide +kernel
set_option maxRecDepth 100000 in
set_option maxHeartbeats 8000000 in
theorem mj_q210_1 : mj_pc mj_m210 40 40 = true := by decide +kernel
set_option maxRecDepth 100000 in
set_option maxHeartbeats 8000000 in
theorem mj_q210_2 : mj_pc mj_m210 80 40 = true := by decide +kernel
set_option maxRecDepth 100000 in
set_option maxHeartbeats 8000000 in
theorem mj_q210_3 : mj_pc mj_m210 120 40 = true := by decide +kernel
set_option maxRecDepth 100000 in
theorem mj_q210_e : mj_cz mj_m210 ((mj_rw mj_m210).drop 160) 160 = true := by decide +kernel
theorem mj_r210_3 : mj_cz mj_m210 ((mj_rw mj_m210).drop 120) 120 = true := mj_pc_1 (y := mj_m210) (a := 120) (n := 40) mj_q210_3 mj_q210_e
theorem mj_r210_2 : mj_cz mj_m210 ((mj_rw mj_m210).drop 80) 80 = true := mj_pc_1 (y := mj_m210) (a := 80) (n := 40) mj_q210_2 mj_r210_3
theorem mj_r210_1 : mj_cz mj_m210 ((mj_rw mj_m210).drop 40) 40 = true := mj_pc_1 (y := mj_m210) (a := 40) (n := 40) mj_q210_1 mj_r210_2
theorem mj_r210_0 : mj_cz mj_m210 ((mj_rw mj_m210).drop 0) 0 = true := mj_pc_1 (y := mj_m210) (a := 0) (n := 40) mj_q210_0 mj_r210_1
theorem mj_q210 : mj_cr mj_m210 = true := mj_pc_0 mj_r210_0
set_option maxRecDepth 100000 in
set_option maxHeartbeats 8000000 in
theorem mj_q227 : mj_cr mj_m227 = true := by decide +kernel
set_option maxRecDepth 100000 in
set_option maxHeartbeats 8000000 in
theorem mj_q230_0 : mj_pc mj_m230 0 40 = true := by decide +kernel
set_option maxRecDepth 100000 in
set_option maxHeartbeats 8000000 in
theorem mj_q230_1 : mj_pc mj_m230 40 40 = true := by decide +kernel
set_option maxRecDepth 100000 in
set_option maxHeartbeats 8000000 in
theorem mj_q230_2 : mj_pc mj_m230 80 40 = true := by decide +kernel
set_option maxRecDepth 100000 in
theorem mj_q230_e : mj_cz mj_m230 ((mj_rw mj_m230).drop 120) 120 = true := by decide +kernel
theorem mj_r230_2 : mj_cz mj_m230 ((mj_rw mj_m230).drop 80) 80 = true := mj_pc_1 (y := mj_m230) (a := 80) (n := 40) mj_q230_2 mj_q230_e
theorem mj_r230_1 : mj_cz mj_m230 ((mj_rw mj_m230).drop 40) 40 = true := mj_pc_1 (y := mj_m230) (a := 40) (n := 40) mj_q230_1 mj_r230_2
theorem mj_r230_0 : mj_cz mj_m230 ((mj_rw mj_m230).drop 0) 0 = true := mj_pc_1 (y := mj_m230) (a := 0) (n := 40) mj_q230_0 mj_r230_1
theorem mj_q230 : mj_cr mj_m230 = true := mj_pc_0 mj_r230_0
set_option maxRecDepth 100000 in
set_option maxHeartbeats 8000000 in
theorem mj_q264 : mj_cr mj_m264 = true := by decide +kernel
set_option maxRecDepth 100000 in
set_option maxHeartbeats 8000000 in
theorem mj_q312_0 : mj_pc mj_m312 0 40 = true := by decide +kernel
set_option maxRecDepth 100000 in
set_option maxHeartbeats 8000000 in
theorem mj_q312_1 : mj_pc mj_m312 40 40 = true := by decide +kernel
set_option maxRecDepth 100000 in
theorem mj_q312_e : mj_cz mj_m312 ((mj_rw mj_m312).drop 80) 80 = true := by decide +kernel
theorem mj_r312_1 : mj_cz mj_m312 ((mj_rw mj_m312).drop 40) 40 = true := mj_pc_1 (y := mj_m312) (a := 40) (n := 40) mj_q312_1 mj_q312_e
theorem mj_r312_0 : mj_cz mj_m312 ((mj_rw mj_m312).drop 0) 0 = true := mj_pc_1 (y := mj_m312) (a := 0) (n := 40) mj_q312_0 mj_r312_1
theorem mj_q312 : mj_cr mj_m312 = true := mj_pc_0 mj_r312_0
set_option maxRecDepth 100000 in
set_option maxHeartbeats 8000000 in
theorem mj_q317_0 : mj_pc mj_m317 0 40 = true := by decide +kernel
set_option maxRecDepth 100000 in
set_option maxHeartbeats 8000000 in
theorem mj_q317_1 : mj_pc mj_m317 40 40 = true := by decide +kernel
set_option maxRecDepth 100000 in
theorem mj_q317_e : mj_cz mj_m317 ((mj_rw mj_m317).drop 80) 80 = true := by decide +kernel
theorem mj_r317_1 : mj_cz mj_m317 ((mj_rw mj_m317).drop 40) 40 = true := mj_pc_1 (y := mj_m317) (a := 40) (n := 40) mj_q317_1 mj_q317_e
theorem mj_r317_0 : mj_cz mj_m317 ((mj_rw mj_m317).drop 0) 0 = true := mj_pc_1 (y := mj_m317) (a := 0) (n := 40) mj_q317_0 mj_r317_1
theorem mj_q317 : mj_cr mj_m317 = true := mj_pc_0 mj_r317_0
set_option maxRecDepth 100000 in
set_option maxHeartbeats 8000000 in
theorem mj_q341_0 : mj_pc mj_m341 0 40 = true := by decide +kernel
set_option maxRecDepth 100000 in
set_option maxHeartbeats 8000000 in
theorem mj_q341_1 : mj_pc mj_m341 40 40 = true := by decide +kernel
set_option maxRecDepth 100000 in
theorem mj_q341_e : mj_cz mj_m341 ((mj_rw mj_m341).drop 80) 80 = true := by decide +kernel
theorem mj_r341_1 : mj_cz mj_m341 ((mj_rw mj_m341).drop 40) 40 = true := mj_pc_1 (y := mj_m341) (a := 40) (n := 40) mj_q341_1 mj_q341_e
theorem mj_r341_0 : mj_cz mj_m341 ((mj_rw mj_m341).drop 0) 0 = true := mj_pc_1 (y := mj_m341) (a := 0) (n := 40) mj_q341_0 mj_r341_1
theorem mj_q341 : mj_cr mj_m341 = true := mj_pc_0 mj_r341_0
set_option maxRecDepth 100000 in
set_option maxHeartbeats 8000000 in
theorem mj_q346 : mj_cr mj_m346 = true := by decide +kernel
end
