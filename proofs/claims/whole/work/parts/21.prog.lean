set_option maxRecDepth 100000 in
theorem pg_170 : (tb_170.all fun q => am_chk 170 q.1 q.2) = true := by decide +kernel
set_option maxRecDepth 100000 in
theorem pg_171 : (tb_171.all fun q => am_chk 171 q.1 q.2) = true := by decide +kernel
set_option maxRecDepth 100000 in
theorem pg_172 : (tb_172.all fun q => am_chk 172 q.1 q.2) = true := by decide +kernel
set_option maxRecDepth 100000 in
theorem pg_173 : (tb_173.all fun q => am_chk 173 q.1 q.2) = true := by decide +kernel
set_option maxRecDepth 100000 in
theorem pg_174 : (tb_174.all fun q => am_chk 174 q.1 q.2) = true := by decide +kernel
set_option maxRecDepth 100000 in
theorem pg_175 : (tb_175.all fun q => am_chk 175 q.1 q.2) = true := by decide +kernel
set_option maxRecDepth 100000 in
theorem pg_176 : (tb_176.all fun q => am_chk 176 q.1 q.2) = true := by decide +kernel
set_option maxRecDepth 100000 in
theorem pg_177 : (tb_177.all fun q => am_chk 177 q.1 q.2) = true := by decide +kernel
set_option maxRecDepth 100000 in
theorem pg_178 : (tb_178.all fun q => am_chk 178 q.1 q.2) = true := by decide +kernel
set_option maxRecDepth 100000 in
theorem pg_179 : (tb_179.all fun q => am_chk 179 q.1 q.2) = true := by decide +kernel
set_option maxRecDepth 100000 in
theorem pg_180 : (tb_180.all fun q => am_chk 180 q.1 q.2) = true := by decide +kernel
set_option maxRecDepth 100000 in
theorem pg_181 : (tb_181.all fun q => am_chk 181 q.1 q.2) = true := by decide +kernel
set_option maxRecDepth 100000 in
theorem pg_182 : (tb_182.all fun q => am_chk 182 q.1 q.2) = true := by decide +kernel
set_option maxRecDepth 100000 in
theorem pg_183 : (tb_183.all fun q => am_chk 183 q.1 q.2) = true := by decide +kernel
set_option maxRecDepth 100000 in
theorem pg_184 : (tb_184.all fun q => am_chk 184 q.1 q.2) = true := by decide +kernel
set_option maxRecDepth 100000 in
theorem pg_185 : (tb_185.all fun q => am_chk 185 q.1 q.2) = true := by decide +kernel
set_option maxRecDepth 100000 in
theorem pg_186 : (tb_186.all fun q => am_chk 186 q.1 q.2) = true := by decide +kernel
set_option maxRecDepth 100000 in
theorem pg_187 : (tb_187.all fun q => am_chk 187 q.1 q.2) = true := by decide +kernel
set_option maxRecDepth 100000 in
theorem pg_188 : (tb_188.all fun q => am_chk 188 q.1 q.2) = true := by decide +kernel
set_option maxRecDepth 100000 in
theorem pg_189 : (tb_189.all fun q => am_chk 189 q.1 q.2) = true := by decide +kernel
set_option maxRecDepth 100000 in
theorem pg_190 : (tb_190.all fun q => am_chk 190 q.1 q.2) = true := by decide +kernel
set_option maxRecDepth 100000 in
theorem pg_191 : (tb_191.all fun q => am_chk 191 q.1 q.2) = true := by decide +kernel
set_option maxRecDepth 100000 in
theorem pg_192 : (tb_192.all fun q => am_chk 192 q.1 q.2) = true := by decide +kernel
set_option maxRecDepth 100000 in
theorem pg_193 : (tb_193.all fun q => am_chk 193 q.1 q.2) = true := by decide +kernel
set_option maxRecDepth 100000 in
theorem pg_194 : (tb_194.all fun q => am_chk 194 q.1 q.2) = true := by decide +kernel
set_option maxRecDepth 100000 in
theorem pg_195 : (tb_195.all fun q => am_chk 195 q.1 q.2) = true := by decide +kernel
set_option maxRecDepth 100000 in
theorem pg_196 : (tb_196.all fun q => am_chk 196 q.1 q.2) = true := by decide +kernel
set_option maxRecDepth 100000 in
theorem pg_197 : (tb_197.all fun q => am_chk 197 q.1 q.2) = true := by decide +kernel
set_option maxRecDepth 100000 in
theorem pg_198 : (tb_198.all fun q => am_chk 198 q.1 q.2) = true := by decide +kernel
set_option maxRecDepth 100000 in
theorem pg_199 : (tb_199.all fun q => am_chk 199 q.1 q.2) = true := by decide +kernel
set_option maxRecDepth 100000 in
theorem pg_200 : (tb_200.all fun q => am_chk 200 q.1 q.2) = true := by decide +kernel
set_option maxRecDepth 100000 in
theorem pg_201 : (tb_201.all fun q => am_chk 201 q.1 q.2) = true := by decide +kernel
set_option maxRecDepth 100000 in
theorem pg_202 : (tb_202.all fun q => am_chk 202 q.1 q.2) = true := by decide +kernel
set_option maxRecDepth 100000 in
theorem pg_203 : (tb_203.all fun q => am_chk 203 q.1 q.2) = true := by decide +kernel
set_option maxRecDepth 100000 in
theorem pg_204 : (tb_204.all fun q => am_chk 204 q.1 q.2) = true := by decide +kernel
set_option maxRecDepth 100000 in
theorem pg_205 : (tb_205.all fun q => am_chk 205 q.1 q.2) = true := by decide +kernel
set_option maxRecDepth 100000 in
theorem pg_206 : (tb_206.all fun q => am_chk 206 q.1 q.2) = true := by decide +kernel
set_option maxRecDepth 100000 in
theorem pg_207 : (tb_207.all fun q => am_chk 207 q.1 q.2) = true := by decide +kernel
set_option maxRecDepth 100000 in
theorem pg_208 : (tb_208.all fun q => am_chk 208 q.1 q.2) = true := by decide +kernel
set_option maxRecDepth 100000 in
theorem pg_209 : (tb_209.all fun q => am_chk 209 q.1 q.2) = true := by decide +kernel
set_option maxRecDepth 100000 in
theorem pg_210 : (tb_210.all fun q => am_chk 210 q.1 q.2) = true := by decide +kernel
set_option maxRecDepth 100000 in
theorem pg_211 : (tb_211.all fun q => am_chk 211 q.1 q.2) = true := by decide +kernel
set_option maxRecDepth 100000 in
theorem pg_212 : (tb_212.all fun q => am_chk 212 q.1 q.2) = true := by decide +kernel
set_option maxRecDepth 100000 in
theorem pg_213 : (tb_213.all fun q => am_chk 213 q.1 q.2) = true := by decide +kernel
set_option maxRecDepth 100000 in
theorem pg_214 : (tb_214.all fun q => am_chk 214 q.1 q.2) = true := by decide +kernel
set_option maxRecDepth 100000 in
theorem pg_215 : (tb_215.all fun q => am_chk 215 q.1 q.2) = true := by decide +kernel
set_option maxRecDepth 100000 in
theorem pg_216 : (tb_216.all fun q => am_chk 216 q.1 q.2) = true := by decide +kernel
set_option maxRecDepth 100000 in
theorem pg_217 : (tb_217.all fun q => am_chk 217 q.1 q.2) = true := by decide +kernel
set_option maxRecDepth 100000 in
theorem pg_218 : (tb_218.all fun q => am_chk 218 q.1 q.2) = true := by decide +kernel
set_option maxRecDepth 100000 in
theorem pg_219 : (tb_219.all fun q => am_chk 219 q.1 q.2) = true := by decide +kernel
set_option maxRecDepth 100000 in
theorem pg_220 : (tb_220.all fun q => am_chk 220 q.1 q.2) = true := by decide +kernel
set_option maxRecDepth 100000 in
theorem pg_221 : (tb_221.all fun q => am_chk 221 q.1 q.2) = true := by decide +kernel
set_option maxRecDepth 100000 in
theorem pg_222 : (tb_222.all fun q => am_chk 222 q.1 q.2) = true := by decide +kernel
set_option maxRecDepth 100000 in
theorem pg_223 : (tb_223.all fun q => am_chk 223 q.1 q.2) = true := by decide +kernel
set_option maxRecDepth 100000 in
theorem pg_224 : (tb_224.all fun q => am_chk 224 q.1 q.2) = true := by decide +kernel
set_option maxRecDepth 100000 in
theorem pg_225 : (tb_225.all fun q => am_chk 225 q.1 q.2) = true := by decide +kernel
set_option maxRecDepth 100000 in
theorem pg_226 : (tb_226.all fun q => am_chk 226 q.1 q.2) = true := by decide +kernel
set_option maxRecDepth 100000 in
theorem pg_227 : (tb_227.all fun q => am_chk 227 q.1 q.2) = true := by decide +kernel
set_option maxRecDepth 100000 in
theorem pg_228 : (tb_228.all fun q => am_chk 228 q.1 q.2) = true := by decide +kernel
set_option maxRecDepth 100000 in
theorem pg_229 : (tb_229.all fun q => am_chk 229 q.1 q.2) = true := by decide +kernel
set_option maxRecDepth 100000 in
theorem pg_230 : (tb_230.all fun q => am_chk 230 q.1 q.2) = true := by decide +kernel
set_option maxRecDepth 100000 in
theorem pg_231 : (tb_231.all fun q => am_chk 231 q.1 q.2) = true := by decide +kernel
set_option maxRecDepth 100000 in
theorem pg_232 : (tb_232.all fun q => am_chk 232 q.1 q.2) = true := by decide +kernel
set_option maxRecDepth 100000 in
theorem pg_233 : (tb_233.all fun q => am_chk 233 q.1 q.2) = true := by decide +kernel
set_option maxRecDepth 100000 in
theorem pg_234 : (tb_234.all fun q => am_chk 234 q.1 q.2) = true := by decide +kernel
set_option maxRecDepth 100000 in
theorem pg_235 : (tb_235.all fun q => am_chk 235 q.1 q.2) = true := by decide +kernel
set_option maxRecDepth 100000 in
theorem pg_236 : (tb_236.all fun q => am_chk 236 q.1 q.2) = true := by decide +kernel
set_option maxRecDepth 100000 in
theorem pg_237 : (tb_237.all fun q => am_chk 237 q.1 q.2) = true := by decide +kernel
set_option maxRecDepth 100000 in
theorem pg_238 : (tb_238.all fun q => am_chk 238 q.1 q.2) = true := by decide +kernel
set_option maxRecDepth 100000 in
theorem pg_239 : (tb_239.all fun q => am_chk 239 q.1 q.2) = true := by decide +kernel
set_option maxRecDepth 100000 in
theorem pg_240 : (tb_240.all fun q => am_chk 240 q.1 q.2) = true := by decide +kernel
set_option maxRecDepth 100000 in
theorem pg_241 : (tb_241.all fun q => am_chk 241 q.1 q.2) = true := by decide +kernel
set_option maxRecDepth 100000 in
theorem pg_242 : (tb_242.all fun q => am_chk 242 q.1 q.2) = true := by decide +kernel
set_option maxRecDepth 100000 in
theorem pg_243 : (tb_243.all fun q => am_chk 243 q.1 q.2) = true := by decide +kernel
set_option maxRecDepth 100000 in
theorem pg_244 : (tb_244.all fun q => am_chk 244 q.1 q.2) = true := by decide +kernel
set_option maxRecDepth 100000 in
theorem pg_245 : (tb_245.all fun q => am_chk 245 q.1 q.2) = true := by decide +kernel
set_option maxRecDepth 100000 in
theorem pg_246 : (tb_246.all fun q => am_chk 246 q.1 q.2) = true := by decide +kernel
set_option maxRecDepth 100000 in
theorem pg_247 : (tb_247.all fun q => am_chk 247 q.1 q.2) = true := by decide +kernel
set_option maxRecDepth 100000 in
theorem pg_248 : (tb_248.all fun q => am_chk 248 q.1 q.2) = true := by decide +kernel
set_option maxRecDepth 100000 in
theorem pg_249 : (tb_249.all fun q => am_chk 249 q.1 q.2) = true := by decide +kernel
set_option maxRecDepth 100000 in
theorem pg_250 : (tb_250.all fun q => am_chk 250 q.1 q.2) = true := by decide +kernel
set_option maxRecDepth 100000 in
theorem pg_251 : (tb_251.all fun q => am_chk 251 q.1 q.2) = true := by decide +kernel
set_option maxRecDepth 100000 in
theorem pg_252 : (tb_252.all fun q => am_chk 252 q.1 q.2) = true := by decide +kernel
set_option maxRecDepth 100000 in
theorem pg_253 : (tb_253.all fun q => am_chk 253 q.1 q.2) = true := by decide +kernel
set_option maxRecDepth 100000 in
theorem pg_254 : (tb_254.all fun q => am_chk 254 q.1 q.2) = true := by decide +kernel
set_option maxRecDepth 100000 in
theorem pg_255 : (tb_255.all fun q => am_chk 255 q.1 q.2) = true := by decide +kernel
set_option maxRecDepth 100000 in
theorem pg_256 : (tb_256.all fun q => am_chk 256 q.1 q.2) = true := by decide +kernel
set_option maxRecDepth 100000 in
theorem pg_257 : (tb_257.all fun q => am_chk 257 q.1 q.2) = true := by decide +kernel
set_option maxRecDepth 100000 in
theorem pg_258 : (tb_258.all fun q => am_chk 258 q.1 q.2) = true := by decide +kernel
set_option maxRecDepth 100000 in
theorem pg_259 : (tb_259.all fun q => am_chk 259 q.1 q.2) = true := by decide +kernel
set_option maxRecDepth 100000 in
theorem pg_260 : (tb_260.all fun q => am_chk 260 q.1 q.2) = true := by decide +kernel
set_option maxRecDepth 100000 in
theorem pg_261 : (tb_261.all fun q => am_chk 261 q.1 q.2) = true := by decide +kernel
set_option maxRecDepth 100000 in
theorem pg_262 : (tb_262.all fun q => am_chk 262 q.1 q.2) = true := by decide +kernel
set_option maxRecDepth 100000 in
theorem pg_263 : (tb_263.all fun q => am_chk 263 q.1 q.2) = true := by decide +kernel
set_option maxRecDepth 100000 in
theorem pg_264 : (tb_264.all fun q => am_chk 264 q.1 q.2) = true := by decide +kernel
set_option maxRecDepth 100000 in
theorem pg_265 : (tb_265.all fun q => am_chk 265 q.1 q.2) = true := by decide +kernel
set_option maxRecDepth 100000 in
theorem pg_266 : (tb_266.all fun q => am_chk 266 q.1 q.2) = true := by decide +kernel
set_option maxRecDepth 100000 in
theorem pg_267 : (tb_267.all fun q => am_chk 267 q.1 q.2) = true := by decide +kernel
set_option maxRecDepth 100000 in
theorem pg_268 : (tb_268.all fun q => am_chk 268 q.1 q.2) = true := by decide +kernel
set_option maxRecDepth 100000 in
theorem pg_269 : (tb_269.all fun q => am_chk 269 q.1 q.2) = true := by decide +kernel
set_option maxRecDepth 100000 in
theorem pg_270 : (tb_270.all fun q => am_chk 270 q.1 q.2) = true := by decide +kernel
set_option maxRecDepth 100000 in
theorem pg_271 : (tb_271.all fun q => am_chk 271 q.1 q.2) = true := by decide +kernel
set_option maxRecDepth 100000 in
theorem pg_272 : (tb_272.all fun q => am_chk 272 q.1 q.2) = true := by decide +kernel
set_option maxRecDepth 100000 in
theorem pg_273 : (tb_273.all fun q => am_chk 273 q.1 q.2) = true := by decide +kernel
set_option maxRecDepth 100000 in
theorem pg_274 : (tb_274.all fun q => am_chk 274 q.1 q.2) = true := by decide +kernel
set_option maxRecDepth 100000 in
theorem pg_275 : (tb_275.all fun q => am_chk 275 q.1 q.2) = true := by decide +kernel
set_option maxRecDepth 100000 in
theorem pg_276 : (tb_276.all fun q => am_chk 276 q.1 q.2) = true := by decide +kernel
set_option maxRecDepth 100000 in
theorem pg_277 : (tb_277.all fun q => am_chk 277 q.1 q.2) = true := by decide +kernel
set_option maxRecDepth 100000 in
theorem pg_278 : (tb_278.all fun q => am_chk 278 q.1 q.2) = true := by decide +kernel
set_option maxRecDepth 100000 in
theorem pg_279 : (tb_279.all fun q => am_chk 279 q.1 q.2) = true := by decide +kernel
set_option maxRecDepth 100000 in
theorem pg_280 : (tb_280.all fun q => am_chk 280 q.1 q.2) = true := by decide +kernel
set_option maxRecDepth 100000 in
theorem pg_281 : (tb_281.all fun q => am_chk 281 q.1 q.2) = true := by decide +kernel
set_option maxRecDepth 100000 in
theorem pg_282 : (tb_282.all fun q => am_chk 282 q.1 q.2) = true := by decide +kernel
set_option maxRecDepth 100000 in
theorem pg_283 : (tb_283.all fun q => am_chk 283 q.1 q.2) = true := by decide +kernel
set_option maxRecDepth 100000 in
theorem pg_284 : (tb_284.all fun q => am_chk 284 q.1 q.2) = true := by decide +kernel
set_option maxRecDepth 100000 in
theorem pg_285 : (tb_285.all fun q => am_chk 285 q.1 q.2) = true := by decide +kernel
set_option maxRecDepth 100000 in
theorem pg_286 : (tb_286.all fun q => am_chk 286 q.1 q.2) = true := by decide +kernel
set_option maxRecDepth 100000 in
theorem pg_287 : (tb_287.all fun q => am_chk 287 q.1 q.2) = true := by decide +kernel
set_option maxRecDepth 100000 in
theorem pg_288 : (tb_288.all fun q => am_chk 288 q.1 q.2) = true := by decide +kernel
set_option maxRecDepth 100000 in
theorem pg_289 : (tb_289.all fun q => am_chk 289 q.1 q.2) = true := by decide +kernel
set_option maxRecDepth 100000 in
theorem pg_290 : (tb_290.all fun q => am_chk 290 q.1 q.2) = true := by decide +kernel
set_option maxRecDepth 100000 in
theorem pg_291 : (tb_291.all fun q => am_chk 291 q.1 q.2) = true := by decide +kernel
set_option maxRecDepth 100000 in
theorem pg_292 : (tb_292.all fun q => am_chk 292 q.1 q.2) = true := by decide +kernel
set_option maxRecDepth 100000 in
theorem pg_293 : (tb_293.all fun q => am_chk 293 q.1 q.2) = true := by decide +kernel
set_option maxRecDepth 100000 in
theorem pg_294 : (tb_294.all fun q => am_chk 294 q.1 q.2) = true := by decide +kernel
set_option maxRecDepth 100000 in
theorem pg_295 : (tb_295.all fun q => am_chk 295 q.1 q.2) = true := by decide +kernel
set_option maxRecDepth 100000 in
theorem pg_296 : (tb_296.all fun q => am_chk 296 q.1 q.2) = true := by decide +kernel
set_option maxRecDepth 100000 in
theorem pg_297 : (tb_297.all fun q => am_chk 297 q.1 q.2) = true := by decide +kernel
set_option maxRecDepth 100000 in
theorem pg_298 : (tb_298.all fun q => am_chk 298 q.1 q.2) = true := by decide +kernel
set_option maxRecDepth 100000 in
theorem pg_299 : (tb_299.all fun q => am_chk 299 q.1 q.2) = true := by decide +kernel
set_option maxRecDepth 100000 in
theorem pg_300 : (tb_300.all fun q => am_chk 300 q.1 q.2) = true := by decide +kernel
set_option maxRecDepth 100000 in
theorem pg_301 : (tb_301.all fun q => am_chk 301 q.1 q.2) = true := by decide +kernel
set_option maxRecDepth 100000 in
theorem pg_302 : (tb_302.all fun q => am_chk 302 q.1 q.2) = true := by decide +kernel
set_option maxRecDepth 100000 in
theorem pg_303 : (tb_303.all fun q => am_chk 303 q.1 q.2) = true := by decide +kernel
set_option maxRecDepth 100000 in
theorem pg_304 : (tb_304.all fun q => am_chk 304 q.1 q.2) = true := by decide +kernel
set_option maxRecDepth 100000 in
theorem pg_305 : (tb_305.all fun q => am_chk 305 q.1 q.2) = true := by decide +kernel
set_option maxRecDepth 100000 in
theorem pg_306 : (tb_306.all fun q => am_chk 306 q.1 q.2) = true := by decide +kernel
set_option maxRecDepth 100000 in
theorem pg_307 : (tb_307.all fun q => am_chk 307 q.1 q.2) = true := by decide +kernel
set_option maxRecDepth 100000 in
theorem pg_308 : (tb_308.all fun q => am_chk 308 q.1 q.2) = true := by decide +kernel
set_option maxRecDepth 100000 in
theorem pg_309 : (tb_309.all fun q => am_chk 309 q.1 q.2) = true := by decide +kernel
set_option maxRecDepth 100000 in
theorem pg_310 : (tb_310.all fun q => am_chk 310 q.1 q.2) = true := by decide +kernel
set_option maxRecDepth 100000 in
theorem pg_311 : (tb_311.all fun q => am_chk 311 q.1 q.2) = true := by decide +kernel
set_option maxRecDepth 100000 in
theorem pg_312 : (tb_312.all fun q => am_chk 312 q.1 q.2) = true := by decide +kernel
set_option maxRecDepth 100000 in
theorem pg_313 : (tb_313.all fun q => am_chk 313 q.1 q.2) = true := by decide +kernel
set_option maxRecDepth 100000 in
theorem pg_314 : (tb_314.all fun q => am_chk 314 q.1 q.2) = true := by decide +kernel
set_option maxRecDepth 100000 in
theorem pg_315 : (tb_315.all fun q => am_chk 315 q.1 q.2) = true := by decide +kernel
set_option maxRecDepth 100000 in
theorem pg_316 : (tb_316.all fun q => am_chk 316 q.1 q.2) = true := by decide +kernel
set_option maxRecDepth 100000 in
theorem pg_317 : (tb_317.all fun q => am_chk 317 q.1 q.2) = true := by decide +kernel
set_option maxRecDepth 100000 in
theorem pg_318 : (tb_318.all fun q => am_chk 318 q.1 q.2) = true := by decide +kernel
set_option maxRecDepth 100000 in
theorem pg_319 : (tb_319.all fun q => am_chk 319 q.1 q.2) = true := by decide +kernel
set_option maxRecDepth 100000 in
theorem pg_320 : (tb_320.all fun q => am_chk 320 q.1 q.2) = true := by decide +kernel
set_option maxRecDepth 100000 in
theorem pg_321 : (tb_321.all fun q => am_chk 321 q.1 q.2) = true := by decide +kernel
set_option maxRecDepth 100000 in
theorem pg_322 : (tb_322.all fun q => am_chk 322 q.1 q.2) = true := by decide +kernel
set_option maxRecDepth 100000 in
theorem pg_323 : (tb_323.all fun q => am_chk 323 q.1 q.2) = true := by decide +kernel
set_option maxRecDepth 100000 in
theorem pg_324 : (tb_324.all fun q => am_chk 324 q.1 q.2) = true := by decide +kernel
set_option maxRecDepth 100000 in
theorem pg_325 : (tb_325.all fun q => am_chk 325 q.1 q.2) = true := by decide +kernel
set_option maxRecDepth 100000 in
theorem pg_326 : (tb_326.all fun q => am_chk 326 q.1 q.2) = true := by decide +kernel
set_option maxRecDepth 100000 in
theorem pg_327 : (tb_327.all fun q => am_chk 327 q.1 q.2) = true := by decide +kernel
