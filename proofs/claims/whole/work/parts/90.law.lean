/-! THE CLAIM OUT OF ONE WALK OF THE LAW'S BODY. Your part is whole_start (and what it stands on); all else here is the same for every law, but numbers. -/
def R_law : String := "CarDeskLaw"
def lw_P (b : Addr) (xs : List Int32) (args : Array Value) (s : State) : Prop := args = #[.ref b] ∧ s.IntsAt b xs ∧ xs.length ≤ 2560 ∧ (Jvm.Cond.and given_1 narrow_1).before args s = true
def lw_Q (_ : Array Value) (s : State) (o : Outcome) (t : State) : Prop := o = .returned (some (.int 1)) ∧ Framed s o t [] 600000 7302250
def lw_Z (below : List Frame) (a : Array Value) (s : State) : State → Prop := fun t => ∃ o, t.status = .running ∧ Ended t below o ∧ lw_Q a s o t
/-- the law's own end, with 1 on the stack, nothing written that was there before, its room as the claim has it -/
theorem lw_ret {p : Program} {l : Launch} {e : Env} {s : State} {m : MethodId} {below : List Frame} {meth : Method} {c : Code} {b : Nat} (hx : p.tables.exec = Jvm.exec) (hb : c.code = code) (hr : meth.sig.returnType = ret) (hlocks : meth.locks = false) {pc : Nat} {H : Heap} {ls : Array Slot} (hdg : decode code pc = .ok (.ireturn, 1)) : W p l e room_1 s m #[Value.ref b] below meth c H [] 600000 7302250 (lw_Z below #[Value.ref b] s) (F0 m pc ls [.int 1]) := by
  intro T hT X
  obtain ⟨fs, hret, hrun, hended, hW, hframe⟩ := X.leave (v := some (.int 1)) (hlocks := hlocks) (fun h => by rw [hr] at h; cases h)
  have hmeth' : T.vm.method? m = some meth := X.method'
  refine ⟨T.setFrames fs, ?_, .returned (some (.int 1)), hrun, hended, rfl, ⟨_, rfl⟩, hW, hframe⟩
  jvm_step X.here [X.here.top, hx, hb, hdg, hmeth', hr, ret, narrow_b1]
  (try refine ⟨rfl, ?_⟩); (try refine ⟨rfl, ?_⟩)
  first | (intro acts; rw [hret _ acts rfl rfl rfl]) | rw [hret _ _ rfl rfl rfl]
  exact Steps.refl _
/-- what holds at the law's entry: the machine, the code, the tables' words (any of lw_tbl by 'hts w (by decide +kernel)'), the script of L ints xs at the cell b, what the Statement gives of the start (any of its parts by flat_of_before) -/
def lw_At (p : Program) (s : State) (m : MethodId) (meth : Method) (c : Code) (b L : Nat) (xs : Nat → Int32) : Prop :=
  p.tables.exec = Jvm.exec ∧ c.code = code ∧ meth.sig.returnType = ret ∧ c.maxLocals = 4 ∧ s.vm.findClass R_law = some m.cls ∧ (∀ w ∈ lw_tbl, w.before #[Value.ref b] s = true) ∧ va_X b L xs s s.heap ∧ b < s.heap.size ∧ meth.locks = false ∧ (Jvm.Cond.and given_1 narrow_1).before #[Value.ref b] s = true
abbrev b_law : ByteArray := code
theorem mw_268 : (.code y_CarDesk_collect b_CarDesk_collect 5 (some .int) : Cond) ∈ cd_WA := List.mem_filter.mpr ⟨List.mem_append_right _ (List.mem_of_getElem? (i := 97) (by decide +kernel)), by decide +kernel⟩
theorem mw_269 : (.methodLink R_law 15 y_CarDesk_collect : Cond) ∈ cd_WA := List.mem_filter.mpr ⟨List.mem_append_right _ (List.mem_of_getElem? (i := 94) (by decide +kernel)), by decide +kernel⟩
theorem mw_270 : (.instanceMethod y_CarDesk_collect : Cond) ∈ cd_WA := List.mem_filter.mpr ⟨List.mem_append_right _ (List.mem_of_getElem? (i := 95) (by decide +kernel)), by decide +kernel⟩
theorem mw_271 : (.selects R_CarDesk y_CarDesk_collect y_CarDesk_collect : Cond) ∈ cd_WA := List.mem_filter.mpr ⟨List.mem_append_right _ (List.mem_of_getElem? (i := 96) (by decide +kernel)), by decide +kernel⟩
theorem mw_272 : (.code y_Model_collect b_Model_collect 5 (some .int) : Cond) ∈ cd_WA := List.mem_filter.mpr ⟨List.mem_append_right _ (List.mem_of_getElem? (i := 379) (by decide +kernel)), by decide +kernel⟩
theorem mw_273 : (.methodLink R_law 19 y_Model_collect : Cond) ∈ cd_WA := List.mem_filter.mpr ⟨List.mem_append_right _ (List.mem_of_getElem? (i := 376) (by decide +kernel)), by decide +kernel⟩
theorem mw_274 : (.instanceMethod y_Model_collect : Cond) ∈ cd_WA := List.mem_filter.mpr ⟨List.mem_append_right _ (List.mem_of_getElem? (i := 377) (by decide +kernel)), by decide +kernel⟩
theorem mw_275 : (.selects R_Model y_Model_collect y_Model_collect : Cond) ∈ cd_WA := List.mem_filter.mpr ⟨List.mem_append_right _ (List.mem_of_getElem? (i := 378) (by decide +kernel)), by decide +kernel⟩
theorem mw_276 : (.code y_CarDesk_answer b_CarDesk_answer 4 (some .int) : Cond) ∈ cd_WA := List.mem_filter.mpr ⟨List.mem_append_right _ (List.mem_of_getElem? (i := 117) (by decide +kernel)), by decide +kernel⟩
theorem mw_277 : (.methodLink R_law 20 y_CarDesk_answer : Cond) ∈ cd_WA := List.mem_filter.mpr ⟨List.mem_append_right _ (List.mem_of_getElem? (i := 114) (by decide +kernel)), by decide +kernel⟩
theorem mw_278 : (.instanceMethod y_CarDesk_answer : Cond) ∈ cd_WA := List.mem_filter.mpr ⟨List.mem_append_right _ (List.mem_of_getElem? (i := 115) (by decide +kernel)), by decide +kernel⟩
theorem mw_279 : (.selects R_CarDesk y_CarDesk_answer y_CarDesk_answer : Cond) ∈ cd_WA := List.mem_filter.mpr ⟨List.mem_append_right _ (List.mem_of_getElem? (i := 116) (by decide +kernel)), by decide +kernel⟩
theorem mw_280 : (.code y_Model_answer b_Model_answer 4 (some .int) : Cond) ∈ cd_WA := List.mem_filter.mpr ⟨List.mem_append_right _ (List.mem_of_getElem? (i := 389) (by decide +kernel)), by decide +kernel⟩
theorem mw_281 : (.methodLink R_law 23 y_Model_answer : Cond) ∈ cd_WA := List.mem_filter.mpr ⟨List.mem_append_right _ (List.mem_of_getElem? (i := 386) (by decide +kernel)), by decide +kernel⟩
theorem mw_282 : (.instanceMethod y_Model_answer : Cond) ∈ cd_WA := List.mem_filter.mpr ⟨List.mem_append_right _ (List.mem_of_getElem? (i := 387) (by decide +kernel)), by decide +kernel⟩
theorem mw_283 : (.selects R_Model y_Model_answer y_Model_answer : Cond) ∈ cd_WA := List.mem_filter.mpr ⟨List.mem_append_right _ (List.mem_of_getElem? (i := 388) (by decide +kernel)), by decide +kernel⟩
theorem mw_284 : (.code y_CarDesk_fails b_CarDesk_fails 4 (some .int) : Cond) ∈ cd_WA := List.mem_filter.mpr ⟨List.mem_append_right _ (List.mem_of_getElem? (i := 129) (by decide +kernel)), by decide +kernel⟩
theorem mw_285 : (.methodLink R_law 24 y_CarDesk_fails : Cond) ∈ cd_WA := List.mem_filter.mpr ⟨List.mem_append_right _ (List.mem_of_getElem? (i := 126) (by decide +kernel)), by decide +kernel⟩
theorem mw_286 : (.instanceMethod y_CarDesk_fails : Cond) ∈ cd_WA := List.mem_filter.mpr ⟨List.mem_append_right _ (List.mem_of_getElem? (i := 127) (by decide +kernel)), by decide +kernel⟩
theorem mw_287 : (.selects R_CarDesk y_CarDesk_fails y_CarDesk_fails : Cond) ∈ cd_WA := List.mem_filter.mpr ⟨List.mem_append_right _ (List.mem_of_getElem? (i := 128) (by decide +kernel)), by decide +kernel⟩
theorem mw_288 : (.code y_Model_fails b_Model_fails 4 (some .int) : Cond) ∈ cd_WA := List.mem_filter.mpr ⟨List.mem_append_right _ (List.mem_of_getElem? (i := 398) (by decide +kernel)), by decide +kernel⟩
theorem mw_289 : (.methodLink R_law 28 y_Model_fails : Cond) ∈ cd_WA := List.mem_filter.mpr ⟨List.mem_append_right _ (List.mem_of_getElem? (i := 395) (by decide +kernel)), by decide +kernel⟩
theorem mw_290 : (.instanceMethod y_Model_fails : Cond) ∈ cd_WA := List.mem_filter.mpr ⟨List.mem_append_right _ (List.mem_of_getElem? (i := 396) (by decide +kernel)), by decide +kernel⟩
theorem mw_291 : (.selects R_Model y_Model_fails y_Model_fails : Cond) ∈ cd_WA := List.mem_filter.mpr ⟨List.mem_append_right _ (List.mem_of_getElem? (i := 397) (by decide +kernel)), by decide +kernel⟩
theorem mw_292 : (.code y_CarDesk_make b_CarDesk_make 4 (some .int) : Cond) ∈ cd_WA := List.mem_filter.mpr ⟨List.mem_append_right _ (List.mem_of_getElem? (i := 133) (by decide +kernel)), by decide +kernel⟩
theorem mw_293 : (.methodLink R_law 29 y_CarDesk_make : Cond) ∈ cd_WA := List.mem_filter.mpr ⟨List.mem_append_right _ (List.mem_of_getElem? (i := 130) (by decide +kernel)), by decide +kernel⟩
theorem mw_294 : (.instanceMethod y_CarDesk_make : Cond) ∈ cd_WA := List.mem_filter.mpr ⟨List.mem_append_right _ (List.mem_of_getElem? (i := 131) (by decide +kernel)), by decide +kernel⟩
theorem mw_295 : (.selects R_CarDesk y_CarDesk_make y_CarDesk_make : Cond) ∈ cd_WA := List.mem_filter.mpr ⟨List.mem_append_right _ (List.mem_of_getElem? (i := 132) (by decide +kernel)), by decide +kernel⟩
theorem mw_296 : (.code y_Model_make b_Model_make 7 (some .int) : Cond) ∈ cd_WA := List.mem_filter.mpr ⟨List.mem_append_right _ (List.mem_of_getElem? (i := 406) (by decide +kernel)), by decide +kernel⟩
theorem mw_297 : (.methodLink R_law 33 y_Model_make : Cond) ∈ cd_WA := List.mem_filter.mpr ⟨List.mem_append_right _ (List.mem_of_getElem? (i := 403) (by decide +kernel)), by decide +kernel⟩
theorem mw_298 : (.instanceMethod y_Model_make : Cond) ∈ cd_WA := List.mem_filter.mpr ⟨List.mem_append_right _ (List.mem_of_getElem? (i := 404) (by decide +kernel)), by decide +kernel⟩
theorem mw_299 : (.selects R_Model y_Model_make y_Model_make : Cond) ∈ cd_WA := List.mem_filter.mpr ⟨List.mem_append_right _ (List.mem_of_getElem? (i := 405) (by decide +kernel)), by decide +kernel⟩
theorem mw_300 : (.code y_CarDesk_call b_CarDesk_call 10 (some .long) : Cond) ∈ cd_WA := List.mem_filter.mpr ⟨List.mem_append_right _ (List.mem_of_getElem? (i := 231) (by decide +kernel)), by decide +kernel⟩
theorem mw_301 : (.methodLink R_law 34 y_CarDesk_call : Cond) ∈ cd_WA := List.mem_filter.mpr ⟨List.mem_append_right _ (List.mem_of_getElem? (i := 228) (by decide +kernel)), by decide +kernel⟩
theorem mw_302 : (.instanceMethod y_CarDesk_call : Cond) ∈ cd_WA := List.mem_filter.mpr ⟨List.mem_append_right _ (List.mem_of_getElem? (i := 229) (by decide +kernel)), by decide +kernel⟩
theorem mw_303 : (.selects R_CarDesk y_CarDesk_call y_CarDesk_call : Cond) ∈ cd_WA := List.mem_filter.mpr ⟨List.mem_append_right _ (List.mem_of_getElem? (i := 230) (by decide +kernel)), by decide +kernel⟩
theorem mw_304 : (.code y_Model_call b_Model_call 8 (some .long) : Cond) ∈ cd_WA := List.mem_filter.mpr ⟨List.mem_append_right _ (List.mem_of_getElem? (i := 440) (by decide +kernel)), by decide +kernel⟩
theorem mw_305 : (.methodLink R_law 38 y_Model_call : Cond) ∈ cd_WA := List.mem_filter.mpr ⟨List.mem_append_right _ (List.mem_of_getElem? (i := 437) (by decide +kernel)), by decide +kernel⟩
theorem mw_306 : (.instanceMethod y_Model_call : Cond) ∈ cd_WA := List.mem_filter.mpr ⟨List.mem_append_right _ (List.mem_of_getElem? (i := 438) (by decide +kernel)), by decide +kernel⟩
theorem mw_307 : (.selects R_Model y_Model_call y_Model_call : Cond) ∈ cd_WA := List.mem_filter.mpr ⟨List.mem_append_right _ (List.mem_of_getElem? (i := 439) (by decide +kernel)), by decide +kernel⟩
theorem mw_308 : (.code y_CarDesk_told b_CarDesk_told 2 (some .int) : Cond) ∈ cd_WA := List.mem_filter.mpr ⟨List.mem_append_right _ (List.mem_of_getElem? (i := 290) (by decide +kernel)), by decide +kernel⟩
theorem mw_309 : (.methodLink R_law 39 y_CarDesk_told : Cond) ∈ cd_WA := List.mem_filter.mpr ⟨List.mem_append_right _ (List.mem_of_getElem? (i := 287) (by decide +kernel)), by decide +kernel⟩
theorem mw_310 : (.instanceMethod y_CarDesk_told : Cond) ∈ cd_WA := List.mem_filter.mpr ⟨List.mem_append_right _ (List.mem_of_getElem? (i := 288) (by decide +kernel)), by decide +kernel⟩
theorem mw_311 : (.selects R_CarDesk y_CarDesk_told y_CarDesk_told : Cond) ∈ cd_WA := List.mem_filter.mpr ⟨List.mem_append_right _ (List.mem_of_getElem? (i := 289) (by decide +kernel)), by decide +kernel⟩
theorem mw_312 : (.code y_Model_told b_Model_told 2 (some .int) : Cond) ∈ cd_WA := List.mem_filter.mpr ⟨List.mem_append_right _ (List.mem_of_getElem? (i := 464) (by decide +kernel)), by decide +kernel⟩
theorem mw_313 : (.methodLink R_law 42 y_Model_told : Cond) ∈ cd_WA := List.mem_filter.mpr ⟨List.mem_append_right _ (List.mem_of_getElem? (i := 461) (by decide +kernel)), by decide +kernel⟩
theorem mw_314 : (.instanceMethod y_Model_told : Cond) ∈ cd_WA := List.mem_filter.mpr ⟨List.mem_append_right _ (List.mem_of_getElem? (i := 462) (by decide +kernel)), by decide +kernel⟩
theorem mw_315 : (.selects R_Model y_Model_told y_Model_told : Cond) ∈ cd_WA := List.mem_filter.mpr ⟨List.mem_append_right _ (List.mem_of_getElem? (i := 463) (by decide +kernel)), by decide +kernel⟩
theorem mw_316 : (.code y_CarDesk_drop b_CarDesk_drop 3 (some .boolean) : Cond) ∈ cd_WA := List.mem_filter.mpr ⟨List.mem_append_right _ (List.mem_of_getElem? (i := 294) (by decide +kernel)), by decide +kernel⟩
theorem mw_317 : (.methodLink R_law 43 y_CarDesk_drop : Cond) ∈ cd_WA := List.mem_filter.mpr ⟨List.mem_append_right _ (List.mem_of_getElem? (i := 291) (by decide +kernel)), by decide +kernel⟩
theorem mw_318 : (.instanceMethod y_CarDesk_drop : Cond) ∈ cd_WA := List.mem_filter.mpr ⟨List.mem_append_right _ (List.mem_of_getElem? (i := 292) (by decide +kernel)), by decide +kernel⟩
theorem mw_319 : (.selects R_CarDesk y_CarDesk_drop y_CarDesk_drop : Cond) ∈ cd_WA := List.mem_filter.mpr ⟨List.mem_append_right _ (List.mem_of_getElem? (i := 293) (by decide +kernel)), by decide +kernel⟩
theorem mw_320 : (.code y_Model_drop b_Model_drop 4 (some .boolean) : Cond) ∈ cd_WA := List.mem_filter.mpr ⟨List.mem_append_right _ (List.mem_of_getElem? (i := 432) (by decide +kernel)), by decide +kernel⟩
theorem mw_321 : (.methodLink R_law 47 y_Model_drop : Cond) ∈ cd_WA := List.mem_filter.mpr ⟨List.mem_append_right _ (List.mem_of_getElem? (i := 429) (by decide +kernel)), by decide +kernel⟩
theorem mw_322 : (.instanceMethod y_Model_drop : Cond) ∈ cd_WA := List.mem_filter.mpr ⟨List.mem_append_right _ (List.mem_of_getElem? (i := 430) (by decide +kernel)), by decide +kernel⟩
theorem mw_323 : (.selects R_Model y_Model_drop y_Model_drop : Cond) ∈ cd_WA := List.mem_filter.mpr ⟨List.mem_append_right _ (List.mem_of_getElem? (i := 431) (by decide +kernel)), by decide +kernel⟩
theorem mw_324 : (.code y_CarDesk_numbers b_CarDesk_numbers 2 (some .int) : Cond) ∈ cd_WA := List.mem_filter.mpr ⟨List.mem_append_right _ (List.mem_of_getElem? (i := 302) (by decide +kernel)), by decide +kernel⟩
theorem mw_325 : (.methodLink R_law 48 y_CarDesk_numbers : Cond) ∈ cd_WA := List.mem_filter.mpr ⟨List.mem_append_right _ (List.mem_of_getElem? (i := 299) (by decide +kernel)), by decide +kernel⟩
theorem mw_326 : (.instanceMethod y_CarDesk_numbers : Cond) ∈ cd_WA := List.mem_filter.mpr ⟨List.mem_append_right _ (List.mem_of_getElem? (i := 300) (by decide +kernel)), by decide +kernel⟩
theorem mw_327 : (.selects R_CarDesk y_CarDesk_numbers y_CarDesk_numbers : Cond) ∈ cd_WA := List.mem_filter.mpr ⟨List.mem_append_right _ (List.mem_of_getElem? (i := 301) (by decide +kernel)), by decide +kernel⟩
theorem mw_328 : (.methodLink R_law 51 y_Model_numbers : Cond) ∈ cd_WA := List.mem_filter.mpr ⟨List.mem_append_right _ (List.mem_of_getElem? (i := 399) (by decide +kernel)), by decide +kernel⟩
theorem mw_329 : (.code y_CarDesk_again b_CarDesk_again 8 (some .long) : Cond) ∈ cd_WA := List.mem_filter.mpr ⟨List.mem_append_right _ (List.mem_of_getElem? (i := 306) (by decide +kernel)), by decide +kernel⟩
theorem mw_330 : (.methodLink R_law 52 y_CarDesk_again : Cond) ∈ cd_WA := List.mem_filter.mpr ⟨List.mem_append_right _ (List.mem_of_getElem? (i := 303) (by decide +kernel)), by decide +kernel⟩
theorem mw_331 : (.instanceMethod y_CarDesk_again : Cond) ∈ cd_WA := List.mem_filter.mpr ⟨List.mem_append_right _ (List.mem_of_getElem? (i := 304) (by decide +kernel)), by decide +kernel⟩
theorem mw_332 : (.selects R_CarDesk y_CarDesk_again y_CarDesk_again : Cond) ∈ cd_WA := List.mem_filter.mpr ⟨List.mem_append_right _ (List.mem_of_getElem? (i := 305) (by decide +kernel)), by decide +kernel⟩
theorem mw_333 : (.code y_Model_again b_Model_again 6 (some .long) : Cond) ∈ cd_WA := List.mem_filter.mpr ⟨List.mem_append_right _ (List.mem_of_getElem? (i := 468) (by decide +kernel)), by decide +kernel⟩
theorem mw_334 : (.methodLink R_law 55 y_Model_again : Cond) ∈ cd_WA := List.mem_filter.mpr ⟨List.mem_append_right _ (List.mem_of_getElem? (i := 465) (by decide +kernel)), by decide +kernel⟩
theorem mw_335 : (.instanceMethod y_Model_again : Cond) ∈ cd_WA := List.mem_filter.mpr ⟨List.mem_append_right _ (List.mem_of_getElem? (i := 466) (by decide +kernel)), by decide +kernel⟩
theorem mw_336 : (.selects R_Model y_Model_again y_Model_again : Cond) ∈ cd_WA := List.mem_filter.mpr ⟨List.mem_append_right _ (List.mem_of_getElem? (i := 467) (by decide +kernel)), by decide +kernel⟩
theorem mw_337 : (.instantiable R_CarDesk 14 : Cond) ∈ cd_WA := List.mem_filter.mpr ⟨List.mem_append_right _ (List.mem_of_getElem? (i := 7) (by decide +kernel)), by decide +kernel⟩
theorem mw_338 : (.instantiable R_Model 20 : Cond) ∈ cd_WA := List.mem_filter.mpr ⟨List.mem_append_right _ (List.mem_of_getElem? (i := 309) (by decide +kernel)), by decide +kernel⟩
theorem mw_339 : (.classLink R_law 7 R_CarDesk : Cond) ∈ cd_WA := List.mem_filter.mpr ⟨List.mem_append_right _ (List.mem_of_getElem? (i := 6) (by decide +kernel)), by decide +kernel⟩
theorem mw_340 : (.code y_CarDesk_init b_CarDesk_init 2 none : Cond) ∈ cd_WA := List.mem_filter.mpr ⟨List.mem_append_right _ (List.mem_of_getElem? (i := 10) (by decide +kernel)), by decide +kernel⟩
theorem mw_341 : (.methodLink R_law 9 y_CarDesk_init : Cond) ∈ cd_WA := List.mem_filter.mpr ⟨List.mem_append_right _ (List.mem_of_getElem? (i := 8) (by decide +kernel)), by decide +kernel⟩
theorem mw_342 : (.instanceMethod y_CarDesk_init : Cond) ∈ cd_WA := List.mem_filter.mpr ⟨List.mem_append_right _ (List.mem_of_getElem? (i := 9) (by decide +kernel)), by decide +kernel⟩
theorem mw_343 : (.classLink R_law 10 R_Model : Cond) ∈ cd_WA := List.mem_filter.mpr ⟨List.mem_append_right _ (List.mem_of_getElem? (i := 308) (by decide +kernel)), by decide +kernel⟩
theorem mw_344 : (.code y_Model_init b_Model_init 1 none : Cond) ∈ cd_WA := List.mem_filter.mpr ⟨List.mem_append_right _ (List.mem_of_getElem? (i := 312) (by decide +kernel)), by decide +kernel⟩
theorem mw_345 : (.methodLink R_law 12 y_Model_init : Cond) ∈ cd_WA := List.mem_filter.mpr ⟨List.mem_append_right _ (List.mem_of_getElem? (i := 310) (by decide +kernel)), by decide +kernel⟩
theorem mw_346 : (.instanceMethod y_Model_init : Cond) ∈ cd_WA := List.mem_filter.mpr ⟨List.mem_append_right _ (List.mem_of_getElem? (i := 311) (by decide +kernel)), by decide +kernel⟩
