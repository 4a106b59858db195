theorem mj_v285 : mj_cv mj_m285 = true := by decide +kernel
theorem mj_v286 : mj_cv mj_m286 = true := by decide +kernel
theorem mj_v287 : mj_cv mj_m287 = true := by decide +kernel
theorem mj_v288 : mj_cv mj_m288 = true := by decide +kernel
theorem mj_v289 : mj_cv mj_m289 = true := by decide +kernel
theorem mj_v290 : mj_cv mj_m290 = true := by decide +kernel
theorem mj_v291 : mj_cv mj_m291 = true := by decide +kernel
theorem mj_v292 : mj_cv mj_m292 = true := by decide +kernel
theorem mj_v293 : mj_cv mj_m293 = true := by decide +kernel
theorem mj_v294 : mj_cv mj_m294 = true := by decide +kernel
theorem mj_v295 : mj_cv mj_m295 = true := by decide +kernel
theorem mj_v296 : mj_cv mj_m296 = true := by decide +kernel
theorem mj_v297 : mj_cv mj_m297 = true := by decide +kernel
theorem mj_v298 : mj_cv mj_m298 = true := by decide +kernel
set_option maxRecDepth 100000 in
theorem mj_v299 : mj_cv mj_m299 = true := by
  have h0 : (mj_ch (mj_m299.2.2.2.2.2.2.1.1 / 4096))[mj_m299.2.2.2.2.2.2.1.1 % 4096]? = some (.code mj_m299.1 mj_m299.2.1 mj_m299.2.2.1 mj_m299.2.2.2.1) := rfl
  have h : mj_w mj_m299.2.2.2.2.2.2.1.1 (.code mj_m299.1 mj_m299.2.1 mj_m299.2.2.1 mj_m299.2.2.2.1) = true := by
    unfold mj_w mj_wN
    rw [decide_eq_true h0]
    rfl
  unfold mj_cv
  rw [h]
  decide +kernel
theorem mj_v300 : mj_cv mj_m300 = true := by decide +kernel
theorem mj_v301 : mj_cv mj_m301 = true := by decide +kernel
theorem mj_v302 : mj_cv mj_m302 = true := by decide +kernel
theorem mj_v303 : mj_cv mj_m303 = true := by decide +kernel
theorem mj_v304 : mj_cv mj_m304 = true := by decide +kernel
theorem mj_v305 : mj_cv mj_m305 = true := by decide +kernel
theorem mj_v306 : mj_cv mj_m306 = true := by decide +kernel
theorem mj_v307 : mj_cv mj_m307 = true := by decide +kernel
theorem mj_v308 : mj_cv mj_m308 = true := by decide +kernel
theorem mj_v309 : mj_cv mj_m309 = true := by decide +kernel
theorem mj_v310 : mj_cv mj_m310 = true := by decide +kernel
theorem mj_v311 : mj_cv mj_m311 = true := by decide +kernel
theorem mj_v312 : mj_cv mj_m312 = true := by decide +kernel
theorem mj_v313 : mj_cv mj_m313 = true := by decide +kernel
theorem mj_v314 : mj_cv mj_m314 = true := by decide +kernel
theorem mj_v315 : mj_cv mj_m315 = true := by decide +kernel
theorem mj_v316 : mj_cv mj_m316 = true := by decide +kernel
theorem mj_v317 : mj_cv mj_m317 = true := by decide +kernel
theorem mj_v318 : mj_cv mj_m318 = true := by decide +kernel
theorem mj_v319 : mj_cv mj_m319 = true := by decide +kernel
theorem mj_v320 : mj_cv mj_m320 = true := by decide +kernel
theorem mj_v321 : mj_cv mj_m321 = true := by decide +kernel
set_option maxRecDepth 100000 in
theorem mj_v322 : mj_cv mj_m322 = true := by
  have h0 : (mj_ch (mj_m322.2.2.2.2.2.2.1.1 / 4096))[mj_m322.2.2.2.2.2.2.1.1 % 4096]? = some (.code mj_m322.1 mj_m322.2.1 mj_m322.2.2.1 mj_m322.2.2.2.1) := rfl
  have h : mj_w mj_m322.2.2.2.2.2.2.1.1 (.code mj_m322.1 mj_m322.2.1 mj_m322.2.2.1 mj_m322.2.2.2.1) = true := by
    unfold mj_w mj_wN
    rw [decide_eq_true h0]
    rfl
  unfold mj_cv
  rw [h]
  decide +kernel
theorem mj_v323 : mj_cv mj_m323 = true := by decide +kernel
set_option maxRecDepth 100000 in
theorem mj_v324 : mj_cv mj_m324 = true := by
  have h0 : (mj_ch (mj_m324.2.2.2.2.2.2.1.1 / 4096))[mj_m324.2.2.2.2.2.2.1.1 % 4096]? = some (.code mj_m324.1 mj_m324.2.1 mj_m324.2.2.1 mj_m324.2.2.2.1) := rfl
  have h : mj_w mj_m324.2.2.2.2.2.2.1.1 (.code mj_m324.1 mj_m324.2.1 mj_m324.2.2.1 mj_m324.2.2.2.1) = true := by
    unfold mj_w mj_wN
    rw [decide_eq_true h0]
    rfl
  unfold mj_cv
  rw [h]
  decide +kernel
theorem mj_v325 : mj_cv mj_m325 = true := by decide +kernel
theorem mj_v326 : mj_cv mj_m326 = true := by decide +kernel
theorem mj_v327 : mj_cv mj_m327 = true := by decide +kernel
theorem mj_v328 : mj_cv mj_m328 = true := by decide +kernel
theorem mj_v329 : mj_cv mj_m329 = true := by decide +kernel
theorem mj_v330 : mj_cv mj_m330 = true := by decide +kernel
theorem mj_v331 : mj_cv mj_m331 = true := by decide +kernel
theorem mj_v332 : mj_cv mj_m332 = true := by decide +kernel
theorem mj_v333 : mj_cv mj_m333 = true := by decide +kernel
theorem mj_v334 : mj_cv mj_m334 = true := by decide +kernel
theorem mj_v335 : mj_cv mj_m335 = true := by decide +kernel
theorem mj_v336 : mj_cv mj_m336 = true := by decide +kernel
theorem mj_v337 : mj_cv mj_m337 = true := by decide +kernel
theorem mj_v338 : mj_cv mj_m338 = true := by decide +kernel
theorem mj_v339 : mj_cv mj_m339 = true := by decide +kernel
theorem mj_v340 : mj_cv mj_m340 = true := by decide +kernel
theorem mj_v341 : mj_cv mj_m341 = true := by decide +kernel
theorem mj_v342 : mj_cv mj_m342 = true := by decide +kernel
theorem mj_v343 : mj_cv mj_m343 = true := by decide +kernel
theorem mj_v344 : mj_cv mj_m344 = true := by decide +kernel
theorem mj_v345 : mj_cv mj_m345 = true := by decide +kernel
theorem mj_v346 : mj_cv mj_m346 = true := by decide +kernel
theorem mj_v347 : mj_cv mj_m347 = true := by decide +kernel
theorem mj_v348 : mj_cv mj_m348 = true := by decide +kernel
theorem mj_v349 : mj_cv mj_m349 = true := by decide +kernel
theorem mj_v350 : mj_cv mj_m350 = true := by decide +kernel
theorem mj_v351 : mj_cv mj_m351 = true := by decide +kernel
theorem mj_v352 : mj_cv mj_m352 = true := by decide +kernel
theorem mj_v353 : mj_cv mj_m353 = true := by decide +kernel
theorem mj_v354 : mj_cv mj_m354 = true := by decide +kernel
set_option maxRecDepth 100000 in
theorem mj_v355 : mj_cv mj_m355 = true := by
  have h0 : (mj_ch (mj_m355.2.2.2.2.2.2.1.1 / 4096))[mj_m355.2.2.2.2.2.2.1.1 % 4096]? = some (.code mj_m355.1 mj_m355.2.1 mj_m355.2.2.1 mj_m355.2.2.2.1) := rfl
  have h : mj_w mj_m355.2.2.2.2.2.2.1.1 (.code mj_m355.1 mj_m355.2.1 mj_m355.2.2.1 mj_m355.2.2.2.1) = true := by
    unfold mj_w mj_wN
    rw [decide_eq_true h0]
    rfl
  unfold mj_cv
  rw [h]
  decide +kernel
theorem mj_v356 : mj_cv mj_m356 = true := by decide +kernel
theorem mj_v357 : mj_cv mj_m357 = true := by decide +kernel
theorem mj_v358 : mj_cv mj_m358 = true := by decide +kernel
theorem mj_v359 : mj_cv mj_m359 = true := by decide +kernel
theorem mj_v360 : mj_cv mj_m360 = true := by decide +kernel
theorem mj_v361 : mj_cv mj_m361 = true := by decide +kernel
theorem mj_v362 : mj_cv mj_m362 = true := by decide +kernel
theorem mj_v363 : mj_cv mj_m363 = true := by decide +kernel
theorem mj_v364 : mj_cv mj_m364 = true := by decide +kernel
theorem mj_v365 : mj_cv mj_m365 = true := by decide +kernel
theorem mj_v366 : mj_cv mj_m366 = true := by decide +kernel
theorem mj_v367 : mj_cv mj_m367 = true := by decide +kernel
theorem mj_v368 : mj_cv mj_m368 = true := by decide +kernel
theorem mj_v369 : mj_cv mj_m369 = true := by decide +kernel
theorem mj_v370 : mj_cv mj_m370 = true := by decide +kernel
set_option maxRecDepth 100000 in
theorem mj_v371 : mj_cv mj_m371 = true := by
  have h0 : (mj_ch (mj_m371.2.2.2.2.2.2.1.1 / 4096))[mj_m371.2.2.2.2.2.2.1.1 % 4096]? = some (.code mj_m371.1 mj_m371.2.1 mj_m371.2.2.1 mj_m371.2.2.2.1) := rfl
  have h : mj_w mj_m371.2.2.2.2.2.2.1.1 (.code mj_m371.1 mj_m371.2.1 mj_m371.2.2.1 mj_m371.2.2.2.1) = true := by
    unfold mj_w mj_wN
    rw [decide_eq_true h0]
    rfl
  unfold mj_cv
  rw [h]
  decide +kernel
theorem mj_v372 : mj_cv mj_m372 = true := by decide +kernel
theorem mj_v373 : mj_cv mj_m373 = true := by decide +kernel
theorem mj_v374 : mj_cv mj_m374 = true := by decide +kernel
theorem mj_v375 : mj_cv mj_m375 = true := by decide +kernel
theorem mj_v376 : mj_cv mj_m376 = true := by decide +kernel
theorem mj_v377 : mj_cv mj_m377 = true := by decide +kernel
theorem mj_v378 : mj_cv mj_m378 = true := by decide +kernel
theorem mj_v379 : mj_cv mj_m379 = true := by decide +kernel
