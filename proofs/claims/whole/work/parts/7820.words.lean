set_option maxRecDepth 100000 in
theorem mj_v231 : mj_cv mj_m231 = true := by
  have h0 : (mj_ch (mj_m231.2.2.2.2.2.2.1.1 / 4096))[mj_m231.2.2.2.2.2.2.1.1 % 4096]? = some (.code mj_m231.1 mj_m231.2.1 mj_m231.2.2.1 mj_m231.2.2.2.1) := rfl
  have h : mj_w mj_m231.2.2.2.2.2.2.1.1 (.code mj_m231.1 mj_m231.2.1 mj_m231.2.2.1 mj_m231.2.2.2.1) = true := by
    unfold mj_w mj_wN
    rw [decide_eq_true h0]
    rfl
  unfold mj_cv
  rw [h]
  decide +kernel
