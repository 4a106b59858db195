theorem mj_v190 : mj_cv mj_m190 = true := by decide +kernel
theorem mj_v191 : mj_cv mj_m191 = true := by decide +kernel
theorem mj_v192 : mj_cv mj_m192 = true := by decide +kernel
theorem mj_v193 : mj_cv mj_m193 = true := by decide +kernel
theorem mj_v194 : mj_cv mj_m194 = true := by decide +kernel
theorem mj_v195 : mj_cv mj_m195 = true := by decide +kernel
theorem mj_v196 : mj_cv mj_m196 = true := by decide +kernel
theorem mj_v197 : mj_cv mj_m197 = true := by decide +kernel
theorem mj_v198 : mj_cv mj_m198 = true := by decide +kernel
theorem mj_v199 : mj_cv mj_m199 = true := by decide +kernel
theorem mj_v200 : mj_cv mj_m200 = true := by decide +kernel
theorem mj_v201 : mj_cv mj_m201 = true := by decide +kernel
theorem mj_v202 : mj_cv mj_m202 = true := by decide +kernel
theorem mj_v203 : mj_cv mj_m203 = true := by decide +kernel
theorem mj_v204 : mj_cv mj_m204 = true := by decide +kernel
theorem mj_v205 : mj_cv mj_m205 = true := by decide +kernel
theorem mj_v206 : mj_cv mj_m206 = true := by decide +kernel
theorem mj_v207 : mj_cv mj_m207 = true := by decide +kernel
theorem mj_v208 : mj_cv mj_m208 = true := by decide +kernel
theorem mj_v209 : mj_cv mj_m209 = true := by decide +kernel
theorem mj_v210 : mj_cv mj_m210 = true := by decide +kernel
theorem mj_v211 : mj_cv mj_m211 = true := by decide +kernel
theorem mj_v212 : mj_cv mj_m212 = true := by decide +kernel
theorem mj_v213 : mj_cv mj_m213 = true := by decide +kernel
theorem mj_v214 : mj_cv mj_m214 = true := by decide +kernel
theorem mj_v215 : mj_cv mj_m215 = true := by decide +kernel
theorem mj_v216 : mj_cv mj_m216 = true := by decide +kernel
theorem mj_v217 : mj_cv mj_m217 = true := by decide +kernel
theorem mj_v218 : mj_cv mj_m218 = true := by decide +kernel
theorem mj_v219 : mj_cv mj_m219 = true := by decide +kernel
theorem mj_v220 : mj_cv mj_m220 = true := by decide +kernel
theorem mj_v221 : mj_cv mj_m221 = true := by decide +kernel
theorem mj_v222 : mj_cv mj_m222 = true := by decide +kernel
theorem mj_v223 : mj_cv mj_m223 = true := by decide +kernel
theorem mj_v224 : mj_cv mj_m224 = true := by decide +kernel
theorem mj_v225 : mj_cv mj_m225 = true := by decide +kernel
theorem mj_v226 : mj_cv mj_m226 = true := by decide +kernel
theorem mj_v227 : mj_cv mj_m227 = true := by decide +kernel
theorem mj_v228 : mj_cv mj_m228 = true := by decide +kernel
theorem mj_v229 : mj_cv mj_m229 = true := by decide +kernel
theorem mj_v230 : mj_cv mj_m230 = true := by decide +kernel
theorem mj_v232 : mj_cv mj_m232 = true := by decide +kernel
theorem mj_v233 : mj_cv mj_m233 = true := by decide +kernel
theorem mj_v234 : mj_cv mj_m234 = true := by decide +kernel
theorem mj_v235 : mj_cv mj_m235 = true := by decide +kernel
theorem mj_v236 : mj_cv mj_m236 = true := by decide +kernel
theorem mj_v237 : mj_cv mj_m237 = true := by decide +kernel
theorem mj_v238 : mj_cv mj_m238 = true := by decide +kernel
theorem mj_v239 : mj_cv mj_m239 = true := by decide +kernel
theorem mj_v240 : mj_cv mj_m240 = true := by decide +kernel
theorem mj_v241 : mj_cv mj_m241 = true := by decide +kernel
theorem mj_v242 : mj_cv mj_m242 = true := by decide +kernel
theorem mj_v243 : mj_cv mj_m243 = true := by decide +kernel
theorem mj_v244 : mj_cv mj_m244 = true := by decide +kernel
theorem mj_v245 : mj_cv mj_m245 = true := by decide +kernel
theorem mj_v246 : mj_cv mj_m246 = true := by decide +kernel
theorem mj_v247 : mj_cv mj_m247 = true := by decide +kernel
theorem mj_v248 : mj_cv mj_m248 = true := by decide +kernel
theorem mj_v249 : mj_cv mj_m249 = true := by decide +kernel
theorem mj_v250 : mj_cv mj_m250 = true := by decide +kernel
theorem mj_v251 : mj_cv mj_m251 = true := by decide +kernel
theorem mj_v252 : mj_cv mj_m252 = true := by decide +kernel
theorem mj_v253 : mj_cv mj_m253 = true := by decide +kernel
theorem mj_v254 : mj_cv mj_m254 = true := by decide +kernel
theorem mj_v255 : mj_cv mj_m255 = true := by decide +kernel
theorem mj_v256 : mj_cv mj_m256 = true := by decide +kernel
theorem mj_v257 : mj_cv mj_m257 = true := by decide +kernel
theorem mj_v258 : mj_cv mj_m258 = true := by decide +kernel
theorem mj_v259 : mj_cv mj_m259 = true := by decide +kernel
set_option maxRecDepth 100000 in
theorem mj_v260 : mj_cv mj_m260 = true := by
  have h0 : (mj_ch (mj_m260.2.2.2.2.2.2.1.1 / 4096))[mj_m260.2.2.2.2.2.2.1.1 % 4096]? = some (.code mj_m260.1 mj_m260.2.1 mj_m260.2.2.1 mj_m260.2.2.2.1) := rfl
  have h : mj_w mj_m260.2.2.2.2.2.2.1.1 (.code mj_m260.1 mj_m260.2.1 mj_m260.2.2.1 mj_m260.2.2.2.1) = true := by
    unfold mj_w mj_wN
    rw [decide_eq_true h0]
    rfl
  unfold mj_cv
  rw [h]
  decide +kernel
theorem mj_v261 : mj_cv mj_m261 = true := by decide +kernel
theorem mj_v262 : mj_cv mj_m262 = true := by decide +kernel
theorem mj_v263 : mj_cv mj_m263 = true := by decide +kernel
theorem mj_v264 : mj_cv mj_m264 = true := by decide +kernel
theorem mj_v265 : mj_cv mj_m265 = true := by decide +kernel
theorem mj_v266 : mj_cv mj_m266 = true := by decide +kernel
theorem mj_v267 : mj_cv mj_m267 = true := by decide +kernel
theorem mj_v268 : mj_cv mj_m268 = true := by decide +kernel
theorem mj_v269 : mj_cv mj_m269 = true := by decide +kernel
theorem mj_v270 : mj_cv mj_m270 = true := by decide +kernel
theorem mj_v271 : mj_cv mj_m271 = true := by decide +kernel
theorem mj_v272 : mj_cv mj_m272 = true := by decide +kernel
theorem mj_v273 : mj_cv mj_m273 = true := by decide +kernel
theorem mj_v274 : mj_cv mj_m274 = true := by decide +kernel
theorem mj_v275 : mj_cv mj_m275 = true := by decide +kernel
theorem mj_v276 : mj_cv mj_m276 = true := by decide +kernel
theorem mj_v277 : mj_cv mj_m277 = true := by decide +kernel
theorem mj_v278 : mj_cv mj_m278 = true := by decide +kernel
theorem mj_v279 : mj_cv mj_m279 = true := by decide +kernel
theorem mj_v280 : mj_cv mj_m280 = true := by decide +kernel
theorem mj_v281 : mj_cv mj_m281 = true := by decide +kernel
theorem mj_v282 : mj_cv mj_m282 = true := by decide +kernel
theorem mj_v283 : mj_cv mj_m283 = true := by decide +kernel
theorem mj_v284 : mj_cv mj_m284 = true := by decide +kernel
