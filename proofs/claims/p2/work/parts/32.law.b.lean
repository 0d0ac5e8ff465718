/-! the law's calls, one by one (by program: wip/gen/lawm.py) -/
abbrev lwL (i : Int32) : List (Option Value) := [some (.ref 2097152), some (.ref 0), some (.ref 54), some (.ref 78), some (.int i), none, none]
def sp_case_0 (F L : Nat) (xs : Nat → Int32) (i : Int32) (g : Mem) : Option (Mem ⊕ Unit) := (rx L xs (i + 1)).bind fun v1 => (rx L xs (i + 2)).bind fun v2 => (rx L xs (i + 3)).bind fun v3 => (rx L xs (i + 4)).bind fun v4 => (rx L xs (i + 5)).bind fun v5 => (sp_Hall_feed F v1 v2 v3 v4 v5 g).bind fun v6 => (rx L xs (i + 1)).bind fun v7 => (rx L xs (i + 2)).bind fun v8 => (rx L xs (i + 3)).bind fun v9 => (rx L xs (i + 4)).bind fun v10 => (rx L xs (i + 5)).bind fun v11 => (sp_Model_feed F v7 v8 v9 v10 v11 v6.2).bind fun v12 => if v6.1 = v12.1 then some (.inl v12.2) else some (.inr ())
theorem ok_case_0 {γ : GG} {F : Nat} {i : Int32} {g : Mem} {b : Nat × Nat} {Φ : PO} {r : Mem ⊕ Unit} (h : sp_case_0 F (gS γ).2.1 (gS γ).2.2 i g = some r) (hr : RQ (fun g9 => WA γ M_Law_main 130 1473 (lwL i) [] SH g9 false b Φ) (fun _ => False) r) : WA γ M_Law_main 130 216 (lwL i) [] SH g false (1 + b.1, 6 + b.2) Φ := by
  unfold sp_case_0 at h
  refine w_aload_n (q := 217) d_Law_main_216 rfl rfl ?_
  refine w_aload_n (q := 218) d_Law_main_217 rfl rfl ?_
  refine w_iload (q := 220) d_Law_main_218 rfl rfl ?_
  refine w_iconst (q := 221) (v := 1) d_Law_main_220 rfl (by decide) ?_
  refine w_iadd (q := 222) d_Law_main_221 rfl ?_
  obtain ⟨v1, hv, h⟩ := bnd h
  obtain ⟨hi, hv⟩ := rx_ok hv
  refine w_sld (q := 223) d_Law_main_222 rfl hi ?_
  rw [hv]
  refine w_aload_n (q := 224) d_Law_main_223 rfl rfl ?_
  refine w_iload (q := 226) d_Law_main_224 rfl rfl ?_
  refine w_iconst (q := 227) (v := 2) d_Law_main_226 rfl (by decide) ?_
  refine w_iadd (q := 228) d_Law_main_227 rfl ?_
  obtain ⟨v2, hv, h⟩ := bnd h
  obtain ⟨hi, hv⟩ := rx_ok hv
  refine w_sld (q := 229) d_Law_main_228 rfl hi ?_
  rw [hv]
  refine w_aload_n (q := 230) d_Law_main_229 rfl rfl ?_
  refine w_iload (q := 232) d_Law_main_230 rfl rfl ?_
  refine w_iconst (q := 233) (v := 3) d_Law_main_232 rfl (by decide) ?_
  refine w_iadd (q := 234) d_Law_main_233 rfl ?_
  obtain ⟨v3, hv, h⟩ := bnd h
  obtain ⟨hi, hv⟩ := rx_ok hv
  refine w_sld (q := 235) d_Law_main_234 rfl hi ?_
  rw [hv]
  refine w_aload_n (q := 236) d_Law_main_235 rfl rfl ?_
  refine w_iload (q := 238) d_Law_main_236 rfl rfl ?_
  refine w_iconst (q := 239) (v := 4) d_Law_main_238 rfl (by decide) ?_
  refine w_iadd (q := 240) d_Law_main_239 rfl ?_
  obtain ⟨v4, hv, h⟩ := bnd h
  obtain ⟨hi, hv⟩ := rx_ok hv
  refine w_sld (q := 241) d_Law_main_240 rfl hi ?_
  rw [hv]
  refine w_aload_n (q := 242) d_Law_main_241 rfl rfl ?_
  refine w_iload (q := 244) d_Law_main_242 rfl rfl ?_
  refine w_iconst (q := 245) (v := 5) d_Law_main_244 rfl (by decide) ?_
  refine w_iadd (q := 246) d_Law_main_245 rfl ?_
  obtain ⟨v5, hv, h⟩ := bnd h
  obtain ⟨hi, hv⟩ := rx_ok hv
  refine w_sld (q := 247) d_Law_main_246 rfl hi ?_
  rw [hv]
  obtain ⟨v6, hv, h⟩ := bnd h
  refine w_callVi (q := 250) (M' := M_Hall_feed) (n' := 1) (k := 0) (As := [.int v1, .int v2, .int v3, .int v4, .int v5]) (sh' := SH) (b1 := (0, 0)) d_Law_main_247 rfl mw_Hall_feed (by decide) (by decide) ml_Law_111 (by decide) s_0 (by decide) rfl rfl rfl (leb rfl) (bz _) (fun _ => rfl) (ok_Hall_feed hv) ?_
  refine w_aload_n (q := 251) d_Law_main_250 rfl rfl ?_
  refine w_aload_n (q := 252) d_Law_main_251 rfl rfl ?_
  refine w_iload (q := 254) d_Law_main_252 rfl rfl ?_
  refine w_iconst (q := 255) (v := 1) d_Law_main_254 rfl (by decide) ?_
  refine w_iadd (q := 256) d_Law_main_255 rfl ?_
  obtain ⟨v7, hv, h⟩ := bnd h
  obtain ⟨hi, hv⟩ := rx_ok hv
  refine w_sld (q := 257) d_Law_main_256 rfl hi ?_
  rw [hv]
  refine w_aload_n (q := 258) d_Law_main_257 rfl rfl ?_
  refine w_iload (q := 260) d_Law_main_258 rfl rfl ?_
  refine w_iconst (q := 261) (v := 2) d_Law_main_260 rfl (by decide) ?_
  refine w_iadd (q := 262) d_Law_main_261 rfl ?_
  obtain ⟨v8, hv, h⟩ := bnd h
  obtain ⟨hi, hv⟩ := rx_ok hv
  refine w_sld (q := 263) d_Law_main_262 rfl hi ?_
  rw [hv]
  refine w_aload_n (q := 264) d_Law_main_263 rfl rfl ?_
  refine w_iload (q := 266) d_Law_main_264 rfl rfl ?_
  refine w_iconst (q := 267) (v := 3) d_Law_main_266 rfl (by decide) ?_
  refine w_iadd (q := 268) d_Law_main_267 rfl ?_
  obtain ⟨v9, hv, h⟩ := bnd h
  obtain ⟨hi, hv⟩ := rx_ok hv
  refine w_sld (q := 269) d_Law_main_268 rfl hi ?_
  rw [hv]
  refine w_aload_n (q := 270) d_Law_main_269 rfl rfl ?_
  refine w_iload (q := 272) d_Law_main_270 rfl rfl ?_
  refine w_iconst (q := 273) (v := 4) d_Law_main_272 rfl (by decide) ?_
  refine w_iadd (q := 274) d_Law_main_273 rfl ?_
  obtain ⟨v10, hv, h⟩ := bnd h
  obtain ⟨hi, hv⟩ := rx_ok hv
  refine w_sld (q := 275) d_Law_main_274 rfl hi ?_
  rw [hv]
  refine w_aload_n (q := 276) d_Law_main_275 rfl rfl ?_
  refine w_iload (q := 278) d_Law_main_276 rfl rfl ?_
  refine w_iconst (q := 279) (v := 5) d_Law_main_278 rfl (by decide) ?_
  refine w_iadd (q := 280) d_Law_main_279 rfl ?_
  obtain ⟨v11, hv, h⟩ := bnd h
  obtain ⟨hi, hv⟩ := rx_ok hv
  refine w_sld (q := 281) d_Law_main_280 rfl hi ?_
  rw [hv]
  obtain ⟨v12, hv, h⟩ := bnd h
  refine w_callVi (q := 284) (M' := M_Model_feed) (n' := 0) (k := 54) (As := [.int v7, .int v8, .int v9, .int v10, .int v11]) (sh' := SH) (b1 := (0, 0)) d_Law_main_281 rfl mw_Model_feed (by decide) (by decide) ml_Law_115 (by decide) s_54 (by decide) rfl rfl rfl (leb rfl) (bz _) (fun _ => rfl) (ok_Model_feed hv) ?_
  by_cases c13 : v6.1 = v12.1
  · rw [if_pos c13] at h
    refine w_icmp_eq_t (q := 1473) d_Law_main_284 rfl c13 ?_
    cases h
    refine w_ls (ls' := [some (.ref 2097152), some (.ref 0), some (.ref 54), some (.ref 78), some (.int i), none, none]) (And.intro rfl (And.intro rfl (And.intro rfl (And.intro rfl (And.intro rfl trivial))))) ?_
    exact w_wide (Nat.le_add_left _ _) (Nat.le_add_left _ _) hr
  · rw [if_neg c13] at h
    refine w_icmp_eq_f (q := 287) d_Law_main_284 1473 rfl rfl c13 ?_
    refine w_iconst (q := 288) (v := 0) d_Law_main_287 rfl (by decide) ?_
    cases h
    exact hr.elim
def sp_case_1 (F L : Nat) (xs : Nat → Int32) (i : Int32) (g : Mem) : Option (Mem ⊕ Unit) := (rx L xs (i + 1)).bind fun v1 => (sp_Law_archive F v1 g).bind fun v2 => (rx L xs (i + 1)).bind fun v3 => (sp_Model_archive F v3 v2.2).bind fun v4 => some (.inl v4.2)
theorem ok_case_1 {γ : GG} {F : Nat} {i : Int32} {g : Mem} {b : Nat × Nat} {Φ : PO} {r : Mem ⊕ Unit} (h : sp_case_1 F (gS γ).2.1 (gS γ).2.2 i g = some r) (hr : RQ (fun g9 => WA γ M_Law_main 130 1473 (lwL i) [] SH g9 false b Φ) (fun _ => False) r) : WA γ M_Law_main 130 289 (lwL i) [] SH g false (1 + b.1, 6 + b.2) Φ := by
  unfold sp_case_1 at h
  refine w_aload_n (q := 290) d_Law_main_289 rfl rfl ?_
  refine w_aload_n (q := 291) d_Law_main_290 rfl rfl ?_
  refine w_iload (q := 293) d_Law_main_291 rfl rfl ?_
  refine w_iconst (q := 294) (v := 1) d_Law_main_293 rfl (by decide) ?_
  refine w_iadd (q := 295) d_Law_main_294 rfl ?_
  obtain ⟨v1, hv, h⟩ := bnd h
  obtain ⟨hi, hv⟩ := rx_ok hv
  refine w_sld (q := 296) d_Law_main_295 rfl hi ?_
  rw [hv]
  refine w_aload_n (q := 297) d_Law_main_296 rfl rfl ?_
  obtain ⟨v2, hv, h⟩ := bnd h
  refine w_callHi (q := 300) (M' := M_Law_archive) (n' := 123) (As := [.ref 0, .int v1, .ref 78]) (sh' := SH) (b1 := (1, 6)) (b2 := b) d_Law_main_297 rfl mw_Law_archive (by decide) (by decide) ml_Law_116 rfl rfl (leb rfl) rfl (fun h9 => absurd h9 (by decide)) (ok_Law_archive hv) ?_
  refine w_istore (q := 302) (ls' := [some (.ref 2097152), some (.ref 0), some (.ref 54), some (.ref 78), some (.int i), some (.int v2.1), none]) d_Law_main_300 rfl (by decide) rfl rfl ?_
  refine w_aload_n (q := 303) d_Law_main_302 rfl rfl ?_
  refine w_aload_n (q := 304) d_Law_main_303 rfl rfl ?_
  refine w_iload (q := 306) d_Law_main_304 rfl rfl ?_
  refine w_iconst (q := 307) (v := 1) d_Law_main_306 rfl (by decide) ?_
  refine w_iadd (q := 308) d_Law_main_307 rfl ?_
  obtain ⟨v3, hv, h⟩ := bnd h
  obtain ⟨hi, hv⟩ := rx_ok hv
  refine w_sld (q := 309) d_Law_main_308 rfl hi ?_
  rw [hv]
  obtain ⟨v4, hv, h⟩ := bnd h
  refine w_callVi (q := 312) (M' := M_Model_archive) (n' := 121) (k := 54) (As := [.int v3]) (sh' := SH) (b1 := (0, 0)) d_Law_main_309 rfl mw_Model_archive (by decide) (by decide) ml_Law_121 (by decide) s_54 (by decide) rfl rfl rfl (leb rfl) (bz _) (fun _ => rfl) (ok_Model_archive hv) ?_
  refine w_istore (q := 314) (ls' := [some (.ref 2097152), some (.ref 0), some (.ref 54), some (.ref 78), some (.int i), some (.int v2.1), some (.int v4.1)]) d_Law_main_312 rfl (by decide) rfl rfl ?_
  refine w_goto (q := 1473) d_Law_main_314 rfl ?_
  cases h
  refine w_ls (ls' := [some (.ref 2097152), some (.ref 0), some (.ref 54), some (.ref 78), some (.int i), none, none]) (And.intro rfl (And.intro rfl (And.intro rfl (And.intro rfl (And.intro rfl trivial))))) ?_
  exact hr
def sp_case_2 (F L : Nat) (xs : Nat → Int32) (i : Int32) (g : Mem) : Option (Mem ⊕ Unit) := (sp_Hall_fault g).bind fun v1 => (sp_Model_fault g).bind fun v2 => some (.inl v2.2)
theorem ok_case_2 {γ : GG} {F : Nat} {i : Int32} {g : Mem} {b : Nat × Nat} {Φ : PO} {r : Mem ⊕ Unit} (h : sp_case_2 F (gS γ).2.1 (gS γ).2.2 i g = some r) (hr : RQ (fun g9 => WA γ M_Law_main 130 1473 (lwL i) [] SH g9 false b Φ) (fun _ => False) r) : WA γ M_Law_main 130 317 (lwL i) [] SH g false (1 + b.1, 6 + b.2) Φ := by
  unfold sp_case_2 at h
  refine w_aload_n (q := 318) d_Law_main_317 rfl rfl ?_
  obtain ⟨v1, hv, h⟩ := bnd h
  refine w_callVi (q := 321) (M' := M_Hall_fault) (n' := 0) (k := 0) (As := []) (sh' := SH) (b1 := (0, 0)) d_Law_main_318 rfl mw_Hall_fault (by decide) (by decide) ml_Law_122 (by decide) s_0 (by decide) rfl rfl rfl (leb rfl) (bz _) (fun _ => rfl) (ok_Hall_fault hv) ?_
  refine w_pop (q := 322) d_Law_main_321 rfl rfl ?_
  refine w_aload_n (q := 323) d_Law_main_322 rfl rfl ?_
  obtain ⟨v2, hv, h⟩ := bnd h
  refine w_callVi (q := 326) (M' := M_Model_fault) (n' := 0) (k := 54) (As := []) (sh' := SH) (b1 := (0, 0)) d_Law_main_323 rfl mw_Model_fault (by decide) (by decide) ml_Law_126 (by decide) s_54 (by decide) rfl rfl rfl (leb rfl) (bz _) (fun _ => rfl) (ok_Model_fault hv) ?_
  refine w_pop (q := 327) d_Law_main_326 rfl rfl ?_
  refine w_goto (q := 1473) d_Law_main_327 rfl ?_
  cases h
  refine w_ls (ls' := [some (.ref 2097152), some (.ref 0), some (.ref 54), some (.ref 78), some (.int i), none, none]) (And.intro rfl (And.intro rfl (And.intro rfl (And.intro rfl (And.intro rfl trivial))))) ?_
  exact w_wide (Nat.le_add_left _ _) (Nat.le_add_left _ _) hr
def sp_case_3 (F L : Nat) (xs : Nat → Int32) (i : Int32) (g : Mem) : Option (Mem ⊕ Unit) := (rx L xs (i + 1)).bind fun v1 => (sp_Law_count F v1 g).bind fun v2 => (rx L xs (i + 1)).bind fun v3 => (sp_Model_count F v3 v2.2).bind fun v4 => some (.inl v4.2)
theorem ok_case_3 {γ : GG} {F : Nat} {i : Int32} {g : Mem} {b : Nat × Nat} {Φ : PO} {r : Mem ⊕ Unit} (h : sp_case_3 F (gS γ).2.1 (gS γ).2.2 i g = some r) (hr : RQ (fun g9 => WA γ M_Law_main 130 1473 (lwL i) [] SH g9 false b Φ) (fun _ => False) r) : WA γ M_Law_main 130 330 (lwL i) [] SH g false (1 + b.1, 6 + b.2) Φ := by
  unfold sp_case_3 at h
  refine w_aload_n (q := 331) d_Law_main_330 rfl rfl ?_
  refine w_aload_n (q := 332) d_Law_main_331 rfl rfl ?_
  refine w_iload (q := 334) d_Law_main_332 rfl rfl ?_
  refine w_iconst (q := 335) (v := 1) d_Law_main_334 rfl (by decide) ?_
  refine w_iadd (q := 336) d_Law_main_335 rfl ?_
  obtain ⟨v1, hv, h⟩ := bnd h
  obtain ⟨hi, hv⟩ := rx_ok hv
  refine w_sld (q := 337) d_Law_main_336 rfl hi ?_
  rw [hv]
  refine w_aload_n (q := 338) d_Law_main_337 rfl rfl ?_
  obtain ⟨v2, hv, h⟩ := bnd h
  refine w_callHi (q := 341) (M' := M_Law_count) (n' := 4) (As := [.ref 0, .int v1, .ref 78]) (sh' := SH) (b1 := (1, 6)) (b2 := b) d_Law_main_338 rfl mw_Law_count (by decide) (by decide) ml_Law_127 rfl rfl (leb rfl) rfl (fun h9 => absurd h9 (by decide)) (ok_Law_count hv) ?_
  refine w_istore (q := 343) (ls' := [some (.ref 2097152), some (.ref 0), some (.ref 54), some (.ref 78), some (.int i), some (.int v2.1), none]) d_Law_main_341 rfl (by decide) rfl rfl ?_
  refine w_aload_n (q := 344) d_Law_main_343 rfl rfl ?_
  refine w_aload_n (q := 345) d_Law_main_344 rfl rfl ?_
  refine w_iload (q := 347) d_Law_main_345 rfl rfl ?_
  refine w_iconst (q := 348) (v := 1) d_Law_main_347 rfl (by decide) ?_
  refine w_iadd (q := 349) d_Law_main_348 rfl ?_
  obtain ⟨v3, hv, h⟩ := bnd h
  obtain ⟨hi, hv⟩ := rx_ok hv
  refine w_sld (q := 350) d_Law_main_349 rfl hi ?_
  rw [hv]
  obtain ⟨v4, hv, h⟩ := bnd h
  refine w_callVi (q := 353) (M' := M_Model_count) (n' := 3) (k := 54) (As := [.int v3]) (sh' := SH) (b1 := (0, 0)) d_Law_main_350 rfl mw_Model_count (by decide) (by decide) ml_Law_129 (by decide) s_54 (by decide) rfl rfl rfl (leb rfl) (bz _) (fun _ => rfl) (ok_Model_count hv) ?_
  refine w_istore (q := 355) (ls' := [some (.ref 2097152), some (.ref 0), some (.ref 54), some (.ref 78), some (.int i), some (.int v2.1), some (.int v4.1)]) d_Law_main_353 rfl (by decide) rfl rfl ?_
  refine w_goto (q := 1473) d_Law_main_355 rfl ?_
  cases h
  refine w_ls (ls' := [some (.ref 2097152), some (.ref 0), some (.ref 54), some (.ref 78), some (.int i), none, none]) (And.intro rfl (And.intro rfl (And.intro rfl (And.intro rfl (And.intro rfl trivial))))) ?_
  exact hr
def sp_case_4 (F L : Nat) (xs : Nat → Int32) (i : Int32) (g : Mem) : Option (Mem ⊕ Unit) := (rx L xs (i + 1)).bind fun v1 => (rx L xs (i + 2)).bind fun v2 => (sp_Law_monk F v1 v2 g).bind fun v3 => (rx L xs (i + 1)).bind fun v4 => (rx L xs (i + 2)).bind fun v5 => (sp_Model_monk F v4 v5 v3.2).bind fun v6 => some (.inl v6.2)
theorem ok_case_4 {γ : GG} {F : Nat} {i : Int32} {g : Mem} {b : Nat × Nat} {Φ : PO} {r : Mem ⊕ Unit} (h : sp_case_4 F (gS γ).2.1 (gS γ).2.2 i g = some r) (hr : RQ (fun g9 => WA γ M_Law_main 130 1473 (lwL i) [] SH g9 false b Φ) (fun _ => False) r) : WA γ M_Law_main 130 358 (lwL i) [] SH g false (1 + b.1, 6 + b.2) Φ := by
  unfold sp_case_4 at h
  refine w_aload_n (q := 359) d_Law_main_358 rfl rfl ?_
  refine w_aload_n (q := 360) d_Law_main_359 rfl rfl ?_
  refine w_iload (q := 362) d_Law_main_360 rfl rfl ?_
  refine w_iconst (q := 363) (v := 1) d_Law_main_362 rfl (by decide) ?_
  refine w_iadd (q := 364) d_Law_main_363 rfl ?_
  obtain ⟨v1, hv, h⟩ := bnd h
  obtain ⟨hi, hv⟩ := rx_ok hv
  refine w_sld (q := 365) d_Law_main_364 rfl hi ?_
  rw [hv]
  refine w_aload_n (q := 366) d_Law_main_365 rfl rfl ?_
  refine w_iload (q := 368) d_Law_main_366 rfl rfl ?_
  refine w_iconst (q := 369) (v := 2) d_Law_main_368 rfl (by decide) ?_
  refine w_iadd (q := 370) d_Law_main_369 rfl ?_
  obtain ⟨v2, hv, h⟩ := bnd h
  obtain ⟨hi, hv⟩ := rx_ok hv
  refine w_sld (q := 371) d_Law_main_370 rfl hi ?_
  rw [hv]
  refine w_aload_n (q := 372) d_Law_main_371 rfl rfl ?_
  obtain ⟨v3, hv, h⟩ := bnd h
  refine w_callHi (q := 375) (M' := M_Law_monk) (n' := 4) (As := [.ref 0, .int v1, .int v2, .ref 78]) (sh' := SH) (b1 := (1, 6)) (b2 := b) d_Law_main_372 rfl mw_Law_monk (by decide) (by decide) ml_Law_130 rfl rfl (leb rfl) rfl (fun h9 => absurd h9 (by decide)) (ok_Law_monk hv) ?_
  refine w_istore (q := 377) (ls' := [some (.ref 2097152), some (.ref 0), some (.ref 54), some (.ref 78), some (.int i), some (.int v3.1), none]) d_Law_main_375 rfl (by decide) rfl rfl ?_
  refine w_aload_n (q := 378) d_Law_main_377 rfl rfl ?_
  refine w_aload_n (q := 379) d_Law_main_378 rfl rfl ?_
  refine w_iload (q := 381) d_Law_main_379 rfl rfl ?_
  refine w_iconst (q := 382) (v := 1) d_Law_main_381 rfl (by decide) ?_
  refine w_iadd (q := 383) d_Law_main_382 rfl ?_
  obtain ⟨v4, hv, h⟩ := bnd h
  obtain ⟨hi, hv⟩ := rx_ok hv
  refine w_sld (q := 384) d_Law_main_383 rfl hi ?_
  rw [hv]
  refine w_aload_n (q := 385) d_Law_main_384 rfl rfl ?_
  refine w_iload (q := 387) d_Law_main_385 rfl rfl ?_
  refine w_iconst (q := 388) (v := 2) d_Law_main_387 rfl (by decide) ?_
  refine w_iadd (q := 389) d_Law_main_388 rfl ?_
  obtain ⟨v5, hv, h⟩ := bnd h
  obtain ⟨hi, hv⟩ := rx_ok hv
  refine w_sld (q := 390) d_Law_main_389 rfl hi ?_
  rw [hv]
  obtain ⟨v6, hv, h⟩ := bnd h
  refine w_callVi (q := 393) (M' := M_Model_monk) (n' := 4) (k := 54) (As := [.int v4, .int v5]) (sh' := SH) (b1 := (0, 0)) d_Law_main_390 rfl mw_Model_monk (by decide) (by decide) ml_Law_133 (by decide) s_54 (by decide) rfl rfl rfl (leb rfl) (bz _) (fun _ => rfl) (ok_Model_monk hv) ?_
  refine w_istore (q := 395) (ls' := [some (.ref 2097152), some (.ref 0), some (.ref 54), some (.ref 78), some (.int i), some (.int v3.1), some (.int v6.1)]) d_Law_main_393 rfl (by decide) rfl rfl ?_
  refine w_goto (q := 1473) d_Law_main_395 rfl ?_
  cases h
  refine w_ls (ls' := [some (.ref 2097152), some (.ref 0), some (.ref 54), some (.ref 78), some (.int i), none, none]) (And.intro rfl (And.intro rfl (And.intro rfl (And.intro rfl (And.intro rfl trivial))))) ?_
  exact hr
def sp_case_5 (F L : Nat) (xs : Nat → Int32) (i : Int32) (g : Mem) : Option (Mem ⊕ Unit) := (rx L xs (i + 1)).bind fun v1 => (rx L xs (i + 2)).bind fun v2 => (sp_Law_entry v1 v2 g).bind fun v3 => (rx L xs (i + 1)).bind fun v4 => (rx L xs (i + 2)).bind fun v5 => (sp_Model_entry v4 v5 v3.2).bind fun v6 => some (.inl v6.2)
theorem ok_case_5 {γ : GG} {F : Nat} {i : Int32} {g : Mem} {b : Nat × Nat} {Φ : PO} {r : Mem ⊕ Unit} (h : sp_case_5 F (gS γ).2.1 (gS γ).2.2 i g = some r) (hr : RQ (fun g9 => WA γ M_Law_main 130 1473 (lwL i) [] SH g9 false b Φ) (fun _ => False) r) : WA γ M_Law_main 130 398 (lwL i) [] SH g false (1 + b.1, 6 + b.2) Φ := by
  unfold sp_case_5 at h
  refine w_aload_n (q := 399) d_Law_main_398 rfl rfl ?_
  refine w_aload_n (q := 400) d_Law_main_399 rfl rfl ?_
  refine w_iload (q := 402) d_Law_main_400 rfl rfl ?_
  refine w_iconst (q := 403) (v := 1) d_Law_main_402 rfl (by decide) ?_
  refine w_iadd (q := 404) d_Law_main_403 rfl ?_
  obtain ⟨v1, hv, h⟩ := bnd h
  obtain ⟨hi, hv⟩ := rx_ok hv
  refine w_sld (q := 405) d_Law_main_404 rfl hi ?_
  rw [hv]
  refine w_aload_n (q := 406) d_Law_main_405 rfl rfl ?_
  refine w_iload (q := 408) d_Law_main_406 rfl rfl ?_
  refine w_iconst (q := 409) (v := 2) d_Law_main_408 rfl (by decide) ?_
  refine w_iadd (q := 410) d_Law_main_409 rfl ?_
  obtain ⟨v2, hv, h⟩ := bnd h
  obtain ⟨hi, hv⟩ := rx_ok hv
  refine w_sld (q := 411) d_Law_main_410 rfl hi ?_
  rw [hv]
  refine w_aload_n (q := 412) d_Law_main_411 rfl rfl ?_
  obtain ⟨v3, hv, h⟩ := bnd h
  refine w_callHi (q := 415) (M' := M_Law_entry) (n' := 3) (As := [.ref 0, .int v1, .int v2, .ref 78]) (sh' := SH) (b1 := (1, 6)) (b2 := b) d_Law_main_412 rfl mw_Law_entry (by decide) (by decide) ml_Law_134 rfl rfl (leb rfl) rfl (fun h9 => absurd h9 (by decide)) (ok_Law_entry hv) ?_
  refine w_istore (q := 417) (ls' := [some (.ref 2097152), some (.ref 0), some (.ref 54), some (.ref 78), some (.int i), some (.int v3.1), none]) d_Law_main_415 rfl (by decide) rfl rfl ?_
  refine w_aload_n (q := 418) d_Law_main_417 rfl rfl ?_
  refine w_aload_n (q := 419) d_Law_main_418 rfl rfl ?_
  refine w_iload (q := 421) d_Law_main_419 rfl rfl ?_
  refine w_iconst (q := 422) (v := 1) d_Law_main_421 rfl (by decide) ?_
  refine w_iadd (q := 423) d_Law_main_422 rfl ?_
  obtain ⟨v4, hv, h⟩ := bnd h
  obtain ⟨hi, hv⟩ := rx_ok hv
  refine w_sld (q := 424) d_Law_main_423 rfl hi ?_
  rw [hv]
  refine w_aload_n (q := 425) d_Law_main_424 rfl rfl ?_
  refine w_iload (q := 427) d_Law_main_425 rfl rfl ?_
  refine w_iconst (q := 428) (v := 2) d_Law_main_427 rfl (by decide) ?_
  refine w_iadd (q := 429) d_Law_main_428 rfl ?_
  obtain ⟨v5, hv, h⟩ := bnd h
  obtain ⟨hi, hv⟩ := rx_ok hv
  refine w_sld (q := 430) d_Law_main_429 rfl hi ?_
  rw [hv]
  obtain ⟨v6, hv, h⟩ := bnd h
  refine w_callVi (q := 433) (M' := M_Model_entry) (n' := 3) (k := 54) (As := [.int v4, .int v5]) (sh' := SH) (b1 := (0, 0)) d_Law_main_430 rfl mw_Model_entry (by decide) (by decide) ml_Law_136 (by decide) s_54 (by decide) rfl rfl rfl (leb rfl) (bz _) (fun _ => rfl) (ok_Model_entry hv) ?_
  refine w_istore (q := 435) (ls' := [some (.ref 2097152), some (.ref 0), some (.ref 54), some (.ref 78), some (.int i), some (.int v3.1), some (.int v6.1)]) d_Law_main_433 rfl (by decide) rfl rfl ?_
  refine w_goto (q := 1473) d_Law_main_435 rfl ?_
  cases h
  refine w_ls (ls' := [some (.ref 2097152), some (.ref 0), some (.ref 54), some (.ref 78), some (.int i), none, none]) (And.intro rfl (And.intro rfl (And.intro rfl (And.intro rfl (And.intro rfl trivial))))) ?_
  exact hr
def sp_case_6 (F L : Nat) (xs : Nat → Int32) (i : Int32) (g : Mem) : Option (Mem ⊕ Unit) := (rx L xs (i + 1)).bind fun v1 => (sp_Law_holders F v1 g).bind fun v2 => (rx L xs (i + 1)).bind fun v3 => (sp_Model_holders F v3 v2.2).bind fun v4 => some (.inl v4.2)
theorem ok_case_6 {γ : GG} {F : Nat} {i : Int32} {g : Mem} {b : Nat × Nat} {Φ : PO} {r : Mem ⊕ Unit} (h : sp_case_6 F (gS γ).2.1 (gS γ).2.2 i g = some r) (hr : RQ (fun g9 => WA γ M_Law_main 130 1473 (lwL i) [] SH g9 false b Φ) (fun _ => False) r) : WA γ M_Law_main 130 438 (lwL i) [] SH g false (1 + b.1, 6 + b.2) Φ := by
  unfold sp_case_6 at h
  refine w_aload_n (q := 439) d_Law_main_438 rfl rfl ?_
  refine w_aload_n (q := 440) d_Law_main_439 rfl rfl ?_
  refine w_iload (q := 442) d_Law_main_440 rfl rfl ?_
  refine w_iconst (q := 443) (v := 1) d_Law_main_442 rfl (by decide) ?_
  refine w_iadd (q := 444) d_Law_main_443 rfl ?_
  obtain ⟨v1, hv, h⟩ := bnd h
  obtain ⟨hi, hv⟩ := rx_ok hv
  refine w_sld (q := 445) d_Law_main_444 rfl hi ?_
  rw [hv]
  refine w_aload_n (q := 446) d_Law_main_445 rfl rfl ?_
  obtain ⟨v2, hv, h⟩ := bnd h
  refine w_callHi (q := 449) (M' := M_Law_holders) (n' := 3) (As := [.ref 0, .int v1, .ref 78]) (sh' := SH) (b1 := (1, 6)) (b2 := b) d_Law_main_446 rfl mw_Law_holders (by decide) (by decide) ml_Law_137 rfl rfl (leb rfl) rfl (fun h9 => absurd h9 (by decide)) (ok_Law_holders hv) ?_
  refine w_istore (q := 451) (ls' := [some (.ref 2097152), some (.ref 0), some (.ref 54), some (.ref 78), some (.int i), some (.int v2.1), none]) d_Law_main_449 rfl (by decide) rfl rfl ?_
  refine w_aload_n (q := 452) d_Law_main_451 rfl rfl ?_
  refine w_aload_n (q := 453) d_Law_main_452 rfl rfl ?_
  refine w_iload (q := 455) d_Law_main_453 rfl rfl ?_
  refine w_iconst (q := 456) (v := 1) d_Law_main_455 rfl (by decide) ?_
  refine w_iadd (q := 457) d_Law_main_456 rfl ?_
  obtain ⟨v3, hv, h⟩ := bnd h
  obtain ⟨hi, hv⟩ := rx_ok hv
  refine w_sld (q := 458) d_Law_main_457 rfl hi ?_
  rw [hv]
  obtain ⟨v4, hv, h⟩ := bnd h
  refine w_callVi (q := 461) (M' := M_Model_holders) (n' := 3) (k := 54) (As := [.int v3]) (sh' := SH) (b1 := (0, 0)) d_Law_main_458 rfl mw_Model_holders (by decide) (by decide) ml_Law_139 (by decide) s_54 (by decide) rfl rfl rfl (leb rfl) (bz _) (fun _ => rfl) (ok_Model_holders hv) ?_
  refine w_istore (q := 463) (ls' := [some (.ref 2097152), some (.ref 0), some (.ref 54), some (.ref 78), some (.int i), some (.int v2.1), some (.int v4.1)]) d_Law_main_461 rfl (by decide) rfl rfl ?_
  refine w_goto (q := 1473) d_Law_main_463 rfl ?_
  cases h
  refine w_ls (ls' := [some (.ref 2097152), some (.ref 0), some (.ref 54), some (.ref 78), some (.int i), none, none]) (And.intro rfl (And.intro rfl (And.intro rfl (And.intro rfl (And.intro rfl trivial))))) ?_
  exact hr
def sp_case_7 (F L : Nat) (xs : Nat → Int32) (i : Int32) (g : Mem) : Option (Mem ⊕ Unit) := (rx L xs (i + 1)).bind fun v1 => (rx L xs (i + 2)).bind fun v2 => (sp_Law_may F v1 v2 g).bind fun v3 => (rx L xs (i + 1)).bind fun v4 => (rx L xs (i + 2)).bind fun v5 => (sp_Model_may F v4 v5 v3.2).bind fun v6 => some (.inl v6.2)
theorem ok_case_7 {γ : GG} {F : Nat} {i : Int32} {g : Mem} {b : Nat × Nat} {Φ : PO} {r : Mem ⊕ Unit} (h : sp_case_7 F (gS γ).2.1 (gS γ).2.2 i g = some r) (hr : RQ (fun g9 => WA γ M_Law_main 130 1473 (lwL i) [] SH g9 false b Φ) (fun _ => False) r) : WA γ M_Law_main 130 466 (lwL i) [] SH g false (1 + b.1, 6 + b.2) Φ := by
  unfold sp_case_7 at h
  refine w_aload_n (q := 467) d_Law_main_466 rfl rfl ?_
  refine w_aload_n (q := 468) d_Law_main_467 rfl rfl ?_
  refine w_iload (q := 470) d_Law_main_468 rfl rfl ?_
  refine w_iconst (q := 471) (v := 1) d_Law_main_470 rfl (by decide) ?_
  refine w_iadd (q := 472) d_Law_main_471 rfl ?_
  obtain ⟨v1, hv, h⟩ := bnd h
  obtain ⟨hi, hv⟩ := rx_ok hv
  refine w_sld (q := 473) d_Law_main_472 rfl hi ?_
  rw [hv]
  refine w_aload_n (q := 474) d_Law_main_473 rfl rfl ?_
  refine w_iload (q := 476) d_Law_main_474 rfl rfl ?_
  refine w_iconst (q := 477) (v := 2) d_Law_main_476 rfl (by decide) ?_
  refine w_iadd (q := 478) d_Law_main_477 rfl ?_
  obtain ⟨v2, hv, h⟩ := bnd h
  obtain ⟨hi, hv⟩ := rx_ok hv
  refine w_sld (q := 479) d_Law_main_478 rfl hi ?_
  rw [hv]
  refine w_aload_n (q := 480) d_Law_main_479 rfl rfl ?_
  obtain ⟨v3, hv, h⟩ := bnd h
  refine w_callHi (q := 483) (M' := M_Law_may) (n' := 5) (As := [.ref 0, .int v1, .int v2, .ref 78]) (sh' := SH) (b1 := (1, 6)) (b2 := b) d_Law_main_480 rfl mw_Law_may (by decide) (by decide) ml_Law_140 rfl rfl (leb rfl) rfl (fun h9 => absurd h9 (by decide)) (ok_Law_may hv) ?_
  refine w_istore (q := 485) (ls' := [some (.ref 2097152), some (.ref 0), some (.ref 54), some (.ref 78), some (.int i), some (.int v3.1), none]) d_Law_main_483 rfl (by decide) rfl rfl ?_
  refine w_aload_n (q := 486) d_Law_main_485 rfl rfl ?_
  refine w_aload_n (q := 487) d_Law_main_486 rfl rfl ?_
  refine w_iload (q := 489) d_Law_main_487 rfl rfl ?_
  refine w_iconst (q := 490) (v := 1) d_Law_main_489 rfl (by decide) ?_
  refine w_iadd (q := 491) d_Law_main_490 rfl ?_
  obtain ⟨v4, hv, h⟩ := bnd h
  obtain ⟨hi, hv⟩ := rx_ok hv
  refine w_sld (q := 492) d_Law_main_491 rfl hi ?_
  rw [hv]
  refine w_aload_n (q := 493) d_Law_main_492 rfl rfl ?_
  refine w_iload (q := 495) d_Law_main_493 rfl rfl ?_
  refine w_iconst (q := 496) (v := 2) d_Law_main_495 rfl (by decide) ?_
  refine w_iadd (q := 497) d_Law_main_496 rfl ?_
  obtain ⟨v5, hv, h⟩ := bnd h
  obtain ⟨hi, hv⟩ := rx_ok hv
  refine w_sld (q := 498) d_Law_main_497 rfl hi ?_
  rw [hv]
  obtain ⟨v6, hv, h⟩ := bnd h
  refine w_callVi (q := 501) (M' := M_Model_may) (n' := 4) (k := 54) (As := [.int v4, .int v5]) (sh' := SH) (b1 := (0, 0)) d_Law_main_498 rfl mw_Model_may (by decide) (by decide) ml_Law_142 (by decide) s_54 (by decide) rfl rfl rfl (leb rfl) (bz _) (fun _ => rfl) (ok_Model_may hv) ?_
  refine w_istore (q := 503) (ls' := [some (.ref 2097152), some (.ref 0), some (.ref 54), some (.ref 78), some (.int i), some (.int v3.1), some (.int v6.1)]) d_Law_main_501 rfl (by decide) rfl rfl ?_
  refine w_goto (q := 1473) d_Law_main_503 rfl ?_
  cases h
  refine w_ls (ls' := [some (.ref 2097152), some (.ref 0), some (.ref 54), some (.ref 78), some (.int i), none, none]) (And.intro rfl (And.intro rfl (And.intro rfl (And.intro rfl (And.intro rfl trivial))))) ?_
  exact hr
def sp_case_8 (F L : Nat) (xs : Nat → Int32) (i : Int32) (g : Mem) : Option (Mem ⊕ Unit) := (rx L xs (i + 1)).bind fun v1 => (sp_Hall_years F v1 g).bind fun v2 => (rx L xs (i + 1)).bind fun v3 => (sp_Model_years F v3 v2.2).bind fun v4 => some (.inl v4.2)
theorem ok_case_8 {γ : GG} {F : Nat} {i : Int32} {g : Mem} {b : Nat × Nat} {Φ : PO} {r : Mem ⊕ Unit} (h : sp_case_8 F (gS γ).2.1 (gS γ).2.2 i g = some r) (hr : RQ (fun g9 => WA γ M_Law_main 130 1473 (lwL i) [] SH g9 false b Φ) (fun _ => False) r) : WA γ M_Law_main 130 506 (lwL i) [] SH g false (1 + b.1, 6 + b.2) Φ := by
  unfold sp_case_8 at h
  refine w_aload_n (q := 507) d_Law_main_506 rfl rfl ?_
  refine w_aload_n (q := 508) d_Law_main_507 rfl rfl ?_
  refine w_iload (q := 510) d_Law_main_508 rfl rfl ?_
  refine w_iconst (q := 511) (v := 1) d_Law_main_510 rfl (by decide) ?_
  refine w_iadd (q := 512) d_Law_main_511 rfl ?_
  obtain ⟨v1, hv, h⟩ := bnd h
  obtain ⟨hi, hv⟩ := rx_ok hv
  refine w_sld (q := 513) d_Law_main_512 rfl hi ?_
  rw [hv]
  obtain ⟨v2, hv, h⟩ := bnd h
  refine w_callVi (q := 516) (M' := M_Hall_years) (n' := 5) (k := 0) (As := [.int v1]) (sh' := SH) (b1 := (0, 0)) d_Law_main_513 rfl mw_Hall_years (by decide) (by decide) ml_Law_143 (by decide) s_0 (by decide) rfl rfl rfl (leb rfl) (bz _) (fun _ => rfl) (ok_Hall_years hv) ?_
  refine w_pop (q := 517) d_Law_main_516 rfl rfl ?_
  refine w_aload_n (q := 518) d_Law_main_517 rfl rfl ?_
  refine w_aload_n (q := 519) d_Law_main_518 rfl rfl ?_
  refine w_iload (q := 521) d_Law_main_519 rfl rfl ?_
  refine w_iconst (q := 522) (v := 1) d_Law_main_521 rfl (by decide) ?_
  refine w_iadd (q := 523) d_Law_main_522 rfl ?_
  obtain ⟨v3, hv, h⟩ := bnd h
  obtain ⟨hi, hv⟩ := rx_ok hv
  refine w_sld (q := 524) d_Law_main_523 rfl hi ?_
  rw [hv]
  obtain ⟨v4, hv, h⟩ := bnd h
  refine w_callVi (q := 527) (M' := M_Model_years) (n' := 5) (k := 54) (As := [.int v3]) (sh' := SH) (b1 := (0, 0)) d_Law_main_524 rfl mw_Model_years (by decide) (by decide) ml_Law_146 (by decide) s_54 (by decide) rfl rfl rfl (leb rfl) (bz _) (fun _ => rfl) (ok_Model_years hv) ?_
  refine w_pop (q := 528) d_Law_main_527 rfl rfl ?_
  refine w_goto (q := 1473) d_Law_main_528 rfl ?_
  cases h
  refine w_ls (ls' := [some (.ref 2097152), some (.ref 0), some (.ref 54), some (.ref 78), some (.int i), none, none]) (And.intro rfl (And.intro rfl (And.intro rfl (And.intro rfl (And.intro rfl trivial))))) ?_
  exact w_wide (Nat.le_add_left _ _) (Nat.le_add_left _ _) hr
def sp_case_9 (F L : Nat) (xs : Nat → Int32) (i : Int32) (g : Mem) : Option (Mem ⊕ Unit) := (rx L xs (i + 1)).bind fun v1 => (rx L xs (i + 2)).bind fun v2 => (rx L xs (i + 3)).bind fun v3 => (rx L xs (i + 4)).bind fun v4 => (sp_Law_braid v1 v2 v3 v4 g).bind fun v5 => (rx L xs (i + 1)).bind fun v6 => (rx L xs (i + 2)).bind fun v7 => (rx L xs (i + 3)).bind fun v8 => (rx L xs (i + 4)).bind fun v9 => (sp_Model_braid F v6 v7 v8 v9 v5.2).bind fun v10 => some (.inl v10.2)
theorem ok_case_9 {γ : GG} {F : Nat} {i : Int32} {g : Mem} {b : Nat × Nat} {Φ : PO} {r : Mem ⊕ Unit} (h : sp_case_9 F (gS γ).2.1 (gS γ).2.2 i g = some r) (hr : RQ (fun g9 => WA γ M_Law_main 130 1473 (lwL i) [] SH g9 false b Φ) (fun _ => False) r) : WA γ M_Law_main 130 531 (lwL i) [] SH g false (1 + b.1, 6 + b.2) Φ := by
  unfold sp_case_9 at h
  refine w_aload_n (q := 532) d_Law_main_531 rfl rfl ?_
  refine w_aload_n (q := 533) d_Law_main_532 rfl rfl ?_
  refine w_iload (q := 535) d_Law_main_533 rfl rfl ?_
  refine w_iconst (q := 536) (v := 1) d_Law_main_535 rfl (by decide) ?_
  refine w_iadd (q := 537) d_Law_main_536 rfl ?_
  obtain ⟨v1, hv, h⟩ := bnd h
  obtain ⟨hi, hv⟩ := rx_ok hv
  refine w_sld (q := 538) d_Law_main_537 rfl hi ?_
  rw [hv]
  refine w_aload_n (q := 539) d_Law_main_538 rfl rfl ?_
  refine w_iload (q := 541) d_Law_main_539 rfl rfl ?_
  refine w_iconst (q := 542) (v := 2) d_Law_main_541 rfl (by decide) ?_
  refine w_iadd (q := 543) d_Law_main_542 rfl ?_
  obtain ⟨v2, hv, h⟩ := bnd h
  obtain ⟨hi, hv⟩ := rx_ok hv
  refine w_sld (q := 544) d_Law_main_543 rfl hi ?_
  rw [hv]
  refine w_aload_n (q := 545) d_Law_main_544 rfl rfl ?_
  refine w_iload (q := 547) d_Law_main_545 rfl rfl ?_
  refine w_iconst (q := 548) (v := 3) d_Law_main_547 rfl (by decide) ?_
  refine w_iadd (q := 549) d_Law_main_548 rfl ?_
  obtain ⟨v3, hv, h⟩ := bnd h
  obtain ⟨hi, hv⟩ := rx_ok hv
  refine w_sld (q := 550) d_Law_main_549 rfl hi ?_
  rw [hv]
  refine w_aload_n (q := 551) d_Law_main_550 rfl rfl ?_
  refine w_iload (q := 553) d_Law_main_551 rfl rfl ?_
  refine w_iconst (q := 554) (v := 4) d_Law_main_553 rfl (by decide) ?_
  refine w_iadd (q := 555) d_Law_main_554 rfl ?_
  obtain ⟨v4, hv, h⟩ := bnd h
  obtain ⟨hi, hv⟩ := rx_ok hv
  refine w_sld (q := 556) d_Law_main_555 rfl hi ?_
  rw [hv]
  refine w_aload_n (q := 557) d_Law_main_556 rfl rfl ?_
  obtain ⟨v5, hv, h⟩ := bnd h
  refine w_callHi (q := 560) (M' := M_Law_braid) (n' := 5) (As := [.ref 0, .int v1, .int v2, .int v3, .int v4, .ref 78]) (sh' := SH) (b1 := (1, 6)) (b2 := b) d_Law_main_557 rfl mw_Law_braid (by decide) (by decide) ml_Law_147 rfl rfl (leb rfl) rfl (fun h9 => absurd h9 (by decide)) (ok_Law_braid hv) ?_
  refine w_istore (q := 562) (ls' := [some (.ref 2097152), some (.ref 0), some (.ref 54), some (.ref 78), some (.int i), some (.int v5.1), none]) d_Law_main_560 rfl (by decide) rfl rfl ?_
  refine w_aload_n (q := 563) d_Law_main_562 rfl rfl ?_
  refine w_aload_n (q := 564) d_Law_main_563 rfl rfl ?_
  refine w_iload (q := 566) d_Law_main_564 rfl rfl ?_
  refine w_iconst (q := 567) (v := 1) d_Law_main_566 rfl (by decide) ?_
  refine w_iadd (q := 568) d_Law_main_567 rfl ?_
  obtain ⟨v6, hv, h⟩ := bnd h
  obtain ⟨hi, hv⟩ := rx_ok hv
  refine w_sld (q := 569) d_Law_main_568 rfl hi ?_
  rw [hv]
  refine w_aload_n (q := 570) d_Law_main_569 rfl rfl ?_
  refine w_iload (q := 572) d_Law_main_570 rfl rfl ?_
  refine w_iconst (q := 573) (v := 2) d_Law_main_572 rfl (by decide) ?_
  refine w_iadd (q := 574) d_Law_main_573 rfl ?_
  obtain ⟨v7, hv, h⟩ := bnd h
  obtain ⟨hi, hv⟩ := rx_ok hv
  refine w_sld (q := 575) d_Law_main_574 rfl hi ?_
  rw [hv]
  refine w_aload_n (q := 576) d_Law_main_575 rfl rfl ?_
  refine w_iload (q := 578) d_Law_main_576 rfl rfl ?_
  refine w_iconst (q := 579) (v := 3) d_Law_main_578 rfl (by decide) ?_
  refine w_iadd (q := 580) d_Law_main_579 rfl ?_
  obtain ⟨v8, hv, h⟩ := bnd h
  obtain ⟨hi, hv⟩ := rx_ok hv
  refine w_sld (q := 581) d_Law_main_580 rfl hi ?_
  rw [hv]
  refine w_aload_n (q := 582) d_Law_main_581 rfl rfl ?_
  refine w_iload (q := 584) d_Law_main_582 rfl rfl ?_
  refine w_iconst (q := 585) (v := 4) d_Law_main_584 rfl (by decide) ?_
  refine w_iadd (q := 586) d_Law_main_585 rfl ?_
  obtain ⟨v9, hv, h⟩ := bnd h
  obtain ⟨hi, hv⟩ := rx_ok hv
  refine w_sld (q := 587) d_Law_main_586 rfl hi ?_
  rw [hv]
  obtain ⟨v10, hv, h⟩ := bnd h
  refine w_callVi (q := 590) (M' := M_Model_braid) (n' := 2) (k := 54) (As := [.int v6, .int v7, .int v8, .int v9]) (sh' := SH) (b1 := (0, 0)) d_Law_main_587 rfl mw_Model_braid (by decide) (by decide) ml_Law_150 (by decide) s_54 (by decide) rfl rfl rfl (leb rfl) (bz _) (fun _ => rfl) (ok_Model_braid hv) ?_
  refine w_istore (q := 592) (ls' := [some (.ref 2097152), some (.ref 0), some (.ref 54), some (.ref 78), some (.int i), some (.int v5.1), some (.int v10.1)]) d_Law_main_590 rfl (by decide) rfl rfl ?_
  refine w_goto (q := 1473) d_Law_main_592 rfl ?_
  cases h
  refine w_ls (ls' := [some (.ref 2097152), some (.ref 0), some (.ref 54), some (.ref 78), some (.int i), none, none]) (And.intro rfl (And.intro rfl (And.intro rfl (And.intro rfl (And.intro rfl trivial))))) ?_
  exact hr
def sp_case_10 (F L : Nat) (xs : Nat → Int32) (i : Int32) (g : Mem) : Option (Mem ⊕ Unit) := (rx L xs (i + 1)).bind fun v1 => (rx L xs (i + 2)).bind fun v2 => (sp_Law_copy F v1 v2 g).bind fun v3 => (rx L xs (i + 1)).bind fun v4 => (rx L xs (i + 2)).bind fun v5 => (sp_Model_copy F v4 v5 v3.2).bind fun v6 => some (.inl v6.2)
theorem ok_case_10 {γ : GG} {F : Nat} {i : Int32} {g : Mem} {b : Nat × Nat} {Φ : PO} {r : Mem ⊕ Unit} (h : sp_case_10 F (gS γ).2.1 (gS γ).2.2 i g = some r) (hr : RQ (fun g9 => WA γ M_Law_main 130 1473 (lwL i) [] SH g9 false b Φ) (fun _ => False) r) : WA γ M_Law_main 130 595 (lwL i) [] SH g false (1 + b.1, 6 + b.2) Φ := by
  unfold sp_case_10 at h
  refine w_aload_n (q := 596) d_Law_main_595 rfl rfl ?_
  refine w_aload_n (q := 597) d_Law_main_596 rfl rfl ?_
  refine w_iload (q := 599) d_Law_main_597 rfl rfl ?_
  refine w_iconst (q := 600) (v := 1) d_Law_main_599 rfl (by decide) ?_
  refine w_iadd (q := 601) d_Law_main_600 rfl ?_
  obtain ⟨v1, hv, h⟩ := bnd h
  obtain ⟨hi, hv⟩ := rx_ok hv
  refine w_sld (q := 602) d_Law_main_601 rfl hi ?_
  rw [hv]
  refine w_aload_n (q := 603) d_Law_main_602 rfl rfl ?_
  refine w_iload (q := 605) d_Law_main_603 rfl rfl ?_
  refine w_iconst (q := 606) (v := 2) d_Law_main_605 rfl (by decide) ?_
  refine w_iadd (q := 607) d_Law_main_606 rfl ?_
  obtain ⟨v2, hv, h⟩ := bnd h
  obtain ⟨hi, hv⟩ := rx_ok hv
  refine w_sld (q := 608) d_Law_main_607 rfl hi ?_
  rw [hv]
  refine w_aload_n (q := 609) d_Law_main_608 rfl rfl ?_
  obtain ⟨v3, hv, h⟩ := bnd h
  refine w_callHi (q := 612) (M' := M_Law_copy) (n' := 5) (As := [.ref 0, .int v1, .int v2, .ref 78]) (sh' := SH) (b1 := (1, 6)) (b2 := b) d_Law_main_609 rfl mw_Law_copy (by decide) (by decide) ml_Law_151 rfl rfl (leb rfl) rfl (fun h9 => absurd h9 (by decide)) (ok_Law_copy hv) ?_
  refine w_istore (q := 614) (ls' := [some (.ref 2097152), some (.ref 0), some (.ref 54), some (.ref 78), some (.int i), some (.int v3.1), none]) d_Law_main_612 rfl (by decide) rfl rfl ?_
  refine w_aload_n (q := 615) d_Law_main_614 rfl rfl ?_
  refine w_aload_n (q := 616) d_Law_main_615 rfl rfl ?_
  refine w_iload (q := 618) d_Law_main_616 rfl rfl ?_
  refine w_iconst (q := 619) (v := 1) d_Law_main_618 rfl (by decide) ?_
  refine w_iadd (q := 620) d_Law_main_619 rfl ?_
  obtain ⟨v4, hv, h⟩ := bnd h
  obtain ⟨hi, hv⟩ := rx_ok hv
  refine w_sld (q := 621) d_Law_main_620 rfl hi ?_
  rw [hv]
  refine w_aload_n (q := 622) d_Law_main_621 rfl rfl ?_
  refine w_iload (q := 624) d_Law_main_622 rfl rfl ?_
  refine w_iconst (q := 625) (v := 2) d_Law_main_624 rfl (by decide) ?_
  refine w_iadd (q := 626) d_Law_main_625 rfl ?_
  obtain ⟨v5, hv, h⟩ := bnd h
  obtain ⟨hi, hv⟩ := rx_ok hv
  refine w_sld (q := 627) d_Law_main_626 rfl hi ?_
  rw [hv]
  obtain ⟨v6, hv, h⟩ := bnd h
  refine w_callVi (q := 630) (M' := M_Model_copy) (n' := 3) (k := 54) (As := [.int v4, .int v5]) (sh' := SH) (b1 := (0, 0)) d_Law_main_627 rfl mw_Model_copy (by decide) (by decide) ml_Law_153 (by decide) s_54 (by decide) rfl rfl rfl (leb rfl) (bz _) (fun _ => rfl) (ok_Model_copy hv) ?_
  refine w_istore (q := 632) (ls' := [some (.ref 2097152), some (.ref 0), some (.ref 54), some (.ref 78), some (.int i), some (.int v3.1), some (.int v6.1)]) d_Law_main_630 rfl (by decide) rfl rfl ?_
  refine w_goto (q := 1473) d_Law_main_632 rfl ?_
  cases h
  refine w_ls (ls' := [some (.ref 2097152), some (.ref 0), some (.ref 54), some (.ref 78), some (.int i), none, none]) (And.intro rfl (And.intro rfl (And.intro rfl (And.intro rfl (And.intro rfl trivial))))) ?_
  exact hr
def sp_case_11 (F L : Nat) (xs : Nat → Int32) (i : Int32) (g : Mem) : Option (Mem ⊕ Unit) := (rx L xs (i + 1)).bind fun v1 => (sp_Law_knot v1 g).bind fun v2 => (rx L xs (i + 1)).bind fun v3 => (sp_Model_knot F v3 v2.2).bind fun v4 => some (.inl v4.2)
theorem ok_case_11 {γ : GG} {F : Nat} {i : Int32} {g : Mem} {b : Nat × Nat} {Φ : PO} {r : Mem ⊕ Unit} (h : sp_case_11 F (gS γ).2.1 (gS γ).2.2 i g = some r) (hr : RQ (fun g9 => WA γ M_Law_main 130 1473 (lwL i) [] SH g9 false b Φ) (fun _ => False) r) : WA γ M_Law_main 130 635 (lwL i) [] SH g false (1 + b.1, 6 + b.2) Φ := by
  unfold sp_case_11 at h
  refine w_aload_n (q := 636) d_Law_main_635 rfl rfl ?_
  refine w_aload_n (q := 637) d_Law_main_636 rfl rfl ?_
  refine w_iload (q := 639) d_Law_main_637 rfl rfl ?_
  refine w_iconst (q := 640) (v := 1) d_Law_main_639 rfl (by decide) ?_
  refine w_iadd (q := 641) d_Law_main_640 rfl ?_
  obtain ⟨v1, hv, h⟩ := bnd h
  obtain ⟨hi, hv⟩ := rx_ok hv
  refine w_sld (q := 642) d_Law_main_641 rfl hi ?_
  rw [hv]
  refine w_aload_n (q := 643) d_Law_main_642 rfl rfl ?_
  obtain ⟨v2, hv, h⟩ := bnd h
  refine w_callHi (q := 646) (M' := M_Law_knot) (n' := 4) (As := [.ref 0, .int v1, .ref 78]) (sh' := SH) (b1 := (1, 6)) (b2 := b) d_Law_main_643 rfl mw_Law_knot (by decide) (by decide) ml_Law_154 rfl rfl (leb rfl) rfl (fun h9 => absurd h9 (by decide)) (ok_Law_knot hv) ?_
  refine w_istore (q := 648) (ls' := [some (.ref 2097152), some (.ref 0), some (.ref 54), some (.ref 78), some (.int i), some (.int v2.1), none]) d_Law_main_646 rfl (by decide) rfl rfl ?_
  refine w_aload_n (q := 649) d_Law_main_648 rfl rfl ?_
  refine w_aload_n (q := 650) d_Law_main_649 rfl rfl ?_
  refine w_iload (q := 652) d_Law_main_650 rfl rfl ?_
  refine w_iconst (q := 653) (v := 1) d_Law_main_652 rfl (by decide) ?_
  refine w_iadd (q := 654) d_Law_main_653 rfl ?_
  obtain ⟨v3, hv, h⟩ := bnd h
  obtain ⟨hi, hv⟩ := rx_ok hv
  refine w_sld (q := 655) d_Law_main_654 rfl hi ?_
  rw [hv]
  obtain ⟨v4, hv, h⟩ := bnd h
  refine w_callVi (q := 658) (M' := M_Model_knot) (n' := 3) (k := 54) (As := [.int v3]) (sh' := SH) (b1 := (0, 0)) d_Law_main_655 rfl mw_Model_knot (by decide) (by decide) ml_Law_156 (by decide) s_54 (by decide) rfl rfl rfl (leb rfl) (bz _) (fun _ => rfl) (ok_Model_knot hv) ?_
  refine w_istore (q := 660) (ls' := [some (.ref 2097152), some (.ref 0), some (.ref 54), some (.ref 78), some (.int i), some (.int v2.1), some (.int v4.1)]) d_Law_main_658 rfl (by decide) rfl rfl ?_
  refine w_goto (q := 1473) d_Law_main_660 rfl ?_
  cases h
  refine w_ls (ls' := [some (.ref 2097152), some (.ref 0), some (.ref 54), some (.ref 78), some (.int i), none, none]) (And.intro rfl (And.intro rfl (And.intro rfl (And.intro rfl (And.intro rfl trivial))))) ?_
  exact hr
def sp_case_12 (F L : Nat) (xs : Nat → Int32) (i : Int32) (g : Mem) : Option (Mem ⊕ Unit) := (rx L xs (i + 1)).bind fun v1 => (sp_Law_comb v1 g).bind fun v2 => (rx L xs (i + 1)).bind fun v3 => (sp_Model_comb F v3 v2.2).bind fun v4 => some (.inl v4.2)
theorem ok_case_12 {γ : GG} {F : Nat} {i : Int32} {g : Mem} {b : Nat × Nat} {Φ : PO} {r : Mem ⊕ Unit} (h : sp_case_12 F (gS γ).2.1 (gS γ).2.2 i g = some r) (hr : RQ (fun g9 => WA γ M_Law_main 130 1473 (lwL i) [] SH g9 false b Φ) (fun _ => False) r) : WA γ M_Law_main 130 663 (lwL i) [] SH g false (1 + b.1, 6 + b.2) Φ := by
  unfold sp_case_12 at h
  refine w_aload_n (q := 664) d_Law_main_663 rfl rfl ?_
  refine w_aload_n (q := 665) d_Law_main_664 rfl rfl ?_
  refine w_iload (q := 667) d_Law_main_665 rfl rfl ?_
  refine w_iconst (q := 668) (v := 1) d_Law_main_667 rfl (by decide) ?_
  refine w_iadd (q := 669) d_Law_main_668 rfl ?_
  obtain ⟨v1, hv, h⟩ := bnd h
  obtain ⟨hi, hv⟩ := rx_ok hv
  refine w_sld (q := 670) d_Law_main_669 rfl hi ?_
  rw [hv]
  refine w_aload_n (q := 671) d_Law_main_670 rfl rfl ?_
  obtain ⟨v2, hv, h⟩ := bnd h
  refine w_callHi (q := 674) (M' := M_Law_comb) (n' := 4) (As := [.ref 0, .int v1, .ref 78]) (sh' := SH) (b1 := (1, 6)) (b2 := b) d_Law_main_671 rfl mw_Law_comb (by decide) (by decide) ml_Law_157 rfl rfl (leb rfl) rfl (fun h9 => absurd h9 (by decide)) (ok_Law_comb hv) ?_
  refine w_istore (q := 676) (ls' := [some (.ref 2097152), some (.ref 0), some (.ref 54), some (.ref 78), some (.int i), some (.int v2.1), none]) d_Law_main_674 rfl (by decide) rfl rfl ?_
  refine w_aload_n (q := 677) d_Law_main_676 rfl rfl ?_
  refine w_aload_n (q := 678) d_Law_main_677 rfl rfl ?_
  refine w_iload (q := 680) d_Law_main_678 rfl rfl ?_
  refine w_iconst (q := 681) (v := 1) d_Law_main_680 rfl (by decide) ?_
  refine w_iadd (q := 682) d_Law_main_681 rfl ?_
  obtain ⟨v3, hv, h⟩ := bnd h
  obtain ⟨hi, hv⟩ := rx_ok hv
  refine w_sld (q := 683) d_Law_main_682 rfl hi ?_
  rw [hv]
  obtain ⟨v4, hv, h⟩ := bnd h
  refine w_callVi (q := 686) (M' := M_Model_comb) (n' := 3) (k := 54) (As := [.int v3]) (sh' := SH) (b1 := (0, 0)) d_Law_main_683 rfl mw_Model_comb (by decide) (by decide) ml_Law_159 (by decide) s_54 (by decide) rfl rfl rfl (leb rfl) (bz _) (fun _ => rfl) (ok_Model_comb hv) ?_
  refine w_istore (q := 688) (ls' := [some (.ref 2097152), some (.ref 0), some (.ref 54), some (.ref 78), some (.int i), some (.int v2.1), some (.int v4.1)]) d_Law_main_686 rfl (by decide) rfl rfl ?_
  refine w_goto (q := 1473) d_Law_main_688 rfl ?_
  cases h
  refine w_ls (ls' := [some (.ref 2097152), some (.ref 0), some (.ref 54), some (.ref 78), some (.int i), none, none]) (And.intro rfl (And.intro rfl (And.intro rfl (And.intro rfl (And.intro rfl trivial))))) ?_
  exact hr
def sp_case_13 (F L : Nat) (xs : Nat → Int32) (i : Int32) (g : Mem) : Option (Mem ⊕ Unit) := (rx L xs (i + 1)).bind fun v1 => (rx L xs (i + 2)).bind fun v2 => (sp_Law_shave F v1 v2 g).bind fun v3 => (rx L xs (i + 1)).bind fun v4 => (rx L xs (i + 2)).bind fun v5 => (sp_Model_shave F v4 v5 v3.2).bind fun v6 => some (.inl v6.2)
theorem ok_case_13 {γ : GG} {F : Nat} {i : Int32} {g : Mem} {b : Nat × Nat} {Φ : PO} {r : Mem ⊕ Unit} (h : sp_case_13 F (gS γ).2.1 (gS γ).2.2 i g = some r) (hr : RQ (fun g9 => WA γ M_Law_main 130 1473 (lwL i) [] SH g9 false b Φ) (fun _ => False) r) : WA γ M_Law_main 130 691 (lwL i) [] SH g false (1 + b.1, 6 + b.2) Φ := by
  unfold sp_case_13 at h
  refine w_aload_n (q := 692) d_Law_main_691 rfl rfl ?_
  refine w_aload_n (q := 693) d_Law_main_692 rfl rfl ?_
  refine w_iload (q := 695) d_Law_main_693 rfl rfl ?_
  refine w_iconst (q := 696) (v := 1) d_Law_main_695 rfl (by decide) ?_
  refine w_iadd (q := 697) d_Law_main_696 rfl ?_
  obtain ⟨v1, hv, h⟩ := bnd h
  obtain ⟨hi, hv⟩ := rx_ok hv
  refine w_sld (q := 698) d_Law_main_697 rfl hi ?_
  rw [hv]
  refine w_aload_n (q := 699) d_Law_main_698 rfl rfl ?_
  refine w_iload (q := 701) d_Law_main_699 rfl rfl ?_
  refine w_iconst (q := 702) (v := 2) d_Law_main_701 rfl (by decide) ?_
  refine w_iadd (q := 703) d_Law_main_702 rfl ?_
  obtain ⟨v2, hv, h⟩ := bnd h
  obtain ⟨hi, hv⟩ := rx_ok hv
  refine w_sld (q := 704) d_Law_main_703 rfl hi ?_
  rw [hv]
  refine w_aload_n (q := 705) d_Law_main_704 rfl rfl ?_
  obtain ⟨v3, hv, h⟩ := bnd h
  refine w_callHi (q := 708) (M' := M_Law_shave) (n' := 6) (As := [.ref 0, .int v1, .int v2, .ref 78]) (sh' := SH) (b1 := (1, 6)) (b2 := b) d_Law_main_705 rfl mw_Law_shave (by decide) (by decide) ml_Law_160 rfl rfl (leb rfl) rfl (fun h9 => absurd h9 (by decide)) (ok_Law_shave hv) ?_
  refine w_istore (q := 710) (ls' := [some (.ref 2097152), some (.ref 0), some (.ref 54), some (.ref 78), some (.int i), some (.int v3.1), none]) d_Law_main_708 rfl (by decide) rfl rfl ?_
  refine w_aload_n (q := 711) d_Law_main_710 rfl rfl ?_
  refine w_aload_n (q := 712) d_Law_main_711 rfl rfl ?_
  refine w_iload (q := 714) d_Law_main_712 rfl rfl ?_
  refine w_iconst (q := 715) (v := 1) d_Law_main_714 rfl (by decide) ?_
  refine w_iadd (q := 716) d_Law_main_715 rfl ?_
  obtain ⟨v4, hv, h⟩ := bnd h
  obtain ⟨hi, hv⟩ := rx_ok hv
  refine w_sld (q := 717) d_Law_main_716 rfl hi ?_
  rw [hv]
  refine w_aload_n (q := 718) d_Law_main_717 rfl rfl ?_
  refine w_iload (q := 720) d_Law_main_718 rfl rfl ?_
  refine w_iconst (q := 721) (v := 2) d_Law_main_720 rfl (by decide) ?_
  refine w_iadd (q := 722) d_Law_main_721 rfl ?_
  obtain ⟨v5, hv, h⟩ := bnd h
  obtain ⟨hi, hv⟩ := rx_ok hv
  refine w_sld (q := 723) d_Law_main_722 rfl hi ?_
  rw [hv]
  obtain ⟨v6, hv, h⟩ := bnd h
  refine w_callVi (q := 726) (M' := M_Model_shave) (n' := 4) (k := 54) (As := [.int v4, .int v5]) (sh' := SH) (b1 := (0, 0)) d_Law_main_723 rfl mw_Model_shave (by decide) (by decide) ml_Law_162 (by decide) s_54 (by decide) rfl rfl rfl (leb rfl) (bz _) (fun _ => rfl) (ok_Model_shave hv) ?_
  refine w_istore (q := 728) (ls' := [some (.ref 2097152), some (.ref 0), some (.ref 54), some (.ref 78), some (.int i), some (.int v3.1), some (.int v6.1)]) d_Law_main_726 rfl (by decide) rfl rfl ?_
  refine w_goto (q := 1473) d_Law_main_728 rfl ?_
  cases h
  refine w_ls (ls' := [some (.ref 2097152), some (.ref 0), some (.ref 54), some (.ref 78), some (.int i), none, none]) (And.intro rfl (And.intro rfl (And.intro rfl (And.intro rfl (And.intro rfl trivial))))) ?_
  exact hr
def sp_case_14 (F L : Nat) (xs : Nat → Int32) (i : Int32) (g : Mem) : Option (Mem ⊕ Unit) := (rx L xs (i + 1)).bind fun v1 => (rx L xs (i + 2)).bind fun v2 => (rx L xs (i + 3)).bind fun v3 => (sp_Law_moths F v1 v2 v3 g).bind fun v4 => (rx L xs (i + 1)).bind fun v5 => (rx L xs (i + 2)).bind fun v6 => (rx L xs (i + 3)).bind fun v7 => (sp_Model_moths F v5 v6 v7 v4.2).bind fun v8 => some (.inl v8.2)
theorem ok_case_14 {γ : GG} {F : Nat} {i : Int32} {g : Mem} {b : Nat × Nat} {Φ : PO} {r : Mem ⊕ Unit} (h : sp_case_14 F (gS γ).2.1 (gS γ).2.2 i g = some r) (hr : RQ (fun g9 => WA γ M_Law_main 130 1473 (lwL i) [] SH g9 false b Φ) (fun _ => False) r) : WA γ M_Law_main 130 731 (lwL i) [] SH g false (1 + b.1, 6 + b.2) Φ := by
  unfold sp_case_14 at h
  refine w_aload_n (q := 732) d_Law_main_731 rfl rfl ?_
  refine w_aload_n (q := 733) d_Law_main_732 rfl rfl ?_
  refine w_iload (q := 735) d_Law_main_733 rfl rfl ?_
  refine w_iconst (q := 736) (v := 1) d_Law_main_735 rfl (by decide) ?_
  refine w_iadd (q := 737) d_Law_main_736 rfl ?_
  obtain ⟨v1, hv, h⟩ := bnd h
  obtain ⟨hi, hv⟩ := rx_ok hv
  refine w_sld (q := 738) d_Law_main_737 rfl hi ?_
  rw [hv]
  refine w_aload_n (q := 739) d_Law_main_738 rfl rfl ?_
  refine w_iload (q := 741) d_Law_main_739 rfl rfl ?_
  refine w_iconst (q := 742) (v := 2) d_Law_main_741 rfl (by decide) ?_
  refine w_iadd (q := 743) d_Law_main_742 rfl ?_
  obtain ⟨v2, hv, h⟩ := bnd h
  obtain ⟨hi, hv⟩ := rx_ok hv
  refine w_sld (q := 744) d_Law_main_743 rfl hi ?_
  rw [hv]
  refine w_aload_n (q := 745) d_Law_main_744 rfl rfl ?_
  refine w_iload (q := 747) d_Law_main_745 rfl rfl ?_
  refine w_iconst (q := 748) (v := 3) d_Law_main_747 rfl (by decide) ?_
  refine w_iadd (q := 749) d_Law_main_748 rfl ?_
  obtain ⟨v3, hv, h⟩ := bnd h
  obtain ⟨hi, hv⟩ := rx_ok hv
  refine w_sld (q := 750) d_Law_main_749 rfl hi ?_
  rw [hv]
  refine w_aload_n (q := 751) d_Law_main_750 rfl rfl ?_
  obtain ⟨v4, hv, h⟩ := bnd h
  refine w_callHi (q := 754) (M' := M_Law_moths) (n' := 5) (As := [.ref 0, .int v1, .int v2, .int v3, .ref 78]) (sh' := SH) (b1 := (1, 6)) (b2 := b) d_Law_main_751 rfl mw_Law_moths (by decide) (by decide) ml_Law_163 rfl rfl (leb rfl) rfl (fun h9 => absurd h9 (by decide)) (ok_Law_moths hv) ?_
  refine w_istore (q := 756) (ls' := [some (.ref 2097152), some (.ref 0), some (.ref 54), some (.ref 78), some (.int i), some (.int v4.1), none]) d_Law_main_754 rfl (by decide) rfl rfl ?_
  refine w_aload_n (q := 757) d_Law_main_756 rfl rfl ?_
  refine w_aload_n (q := 758) d_Law_main_757 rfl rfl ?_
  refine w_iload (q := 760) d_Law_main_758 rfl rfl ?_
  refine w_iconst (q := 761) (v := 1) d_Law_main_760 rfl (by decide) ?_
  refine w_iadd (q := 762) d_Law_main_761 rfl ?_
  obtain ⟨v5, hv, h⟩ := bnd h
  obtain ⟨hi, hv⟩ := rx_ok hv
  refine w_sld (q := 763) d_Law_main_762 rfl hi ?_
  rw [hv]
  refine w_aload_n (q := 764) d_Law_main_763 rfl rfl ?_
  refine w_iload (q := 766) d_Law_main_764 rfl rfl ?_
  refine w_iconst (q := 767) (v := 2) d_Law_main_766 rfl (by decide) ?_
  refine w_iadd (q := 768) d_Law_main_767 rfl ?_
  obtain ⟨v6, hv, h⟩ := bnd h
  obtain ⟨hi, hv⟩ := rx_ok hv
  refine w_sld (q := 769) d_Law_main_768 rfl hi ?_
  rw [hv]
  refine w_aload_n (q := 770) d_Law_main_769 rfl rfl ?_
  refine w_iload (q := 772) d_Law_main_770 rfl rfl ?_
  refine w_iconst (q := 773) (v := 3) d_Law_main_772 rfl (by decide) ?_
  refine w_iadd (q := 774) d_Law_main_773 rfl ?_
  obtain ⟨v7, hv, h⟩ := bnd h
  obtain ⟨hi, hv⟩ := rx_ok hv
  refine w_sld (q := 775) d_Law_main_774 rfl hi ?_
  rw [hv]
  obtain ⟨v8, hv, h⟩ := bnd h
  refine w_callVi (q := 778) (M' := M_Model_moths) (n' := 4) (k := 54) (As := [.int v5, .int v6, .int v7]) (sh' := SH) (b1 := (0, 0)) d_Law_main_775 rfl mw_Model_moths (by decide) (by decide) ml_Law_166 (by decide) s_54 (by decide) rfl rfl rfl (leb rfl) (bz _) (fun _ => rfl) (ok_Model_moths hv) ?_
  refine w_istore (q := 780) (ls' := [some (.ref 2097152), some (.ref 0), some (.ref 54), some (.ref 78), some (.int i), some (.int v4.1), some (.int v8.1)]) d_Law_main_778 rfl (by decide) rfl rfl ?_
  refine w_goto (q := 1473) d_Law_main_780 rfl ?_
  cases h
  refine w_ls (ls' := [some (.ref 2097152), some (.ref 0), some (.ref 54), some (.ref 78), some (.int i), none, none]) (And.intro rfl (And.intro rfl (And.intro rfl (And.intro rfl (And.intro rfl trivial))))) ?_
  exact hr
def sp_case_15 (F L : Nat) (xs : Nat → Int32) (i : Int32) (g : Mem) : Option (Mem ⊕ Unit) := (rx L xs (i + 1)).bind fun v1 => (sp_Law_die v1 g).bind fun v2 => (rx L xs (i + 1)).bind fun v3 => (sp_Model_die F v3 v2.2).bind fun v4 => some (.inl v4.2)
theorem ok_case_15 {γ : GG} {F : Nat} {i : Int32} {g : Mem} {b : Nat × Nat} {Φ : PO} {r : Mem ⊕ Unit} (h : sp_case_15 F (gS γ).2.1 (gS γ).2.2 i g = some r) (hr : RQ (fun g9 => WA γ M_Law_main 130 1473 (lwL i) [] SH g9 false b Φ) (fun _ => False) r) : WA γ M_Law_main 130 783 (lwL i) [] SH g false (1 + b.1, 6 + b.2) Φ := by
  unfold sp_case_15 at h
  refine w_aload_n (q := 784) d_Law_main_783 rfl rfl ?_
  refine w_aload_n (q := 785) d_Law_main_784 rfl rfl ?_
  refine w_iload (q := 787) d_Law_main_785 rfl rfl ?_
  refine w_iconst (q := 788) (v := 1) d_Law_main_787 rfl (by decide) ?_
  refine w_iadd (q := 789) d_Law_main_788 rfl ?_
  obtain ⟨v1, hv, h⟩ := bnd h
  obtain ⟨hi, hv⟩ := rx_ok hv
  refine w_sld (q := 790) d_Law_main_789 rfl hi ?_
  rw [hv]
  refine w_aload_n (q := 791) d_Law_main_790 rfl rfl ?_
  obtain ⟨v2, hv, h⟩ := bnd h
  refine w_callHi (q := 794) (M' := M_Law_die) (n' := 3) (As := [.ref 0, .int v1, .ref 78]) (sh' := SH) (b1 := (1, 6)) (b2 := b) d_Law_main_791 rfl mw_Law_die (by decide) (by decide) ml_Law_167 rfl rfl (leb rfl) rfl (fun h9 => absurd h9 (by decide)) (ok_Law_die hv) ?_
  refine w_istore (q := 796) (ls' := [some (.ref 2097152), some (.ref 0), some (.ref 54), some (.ref 78), some (.int i), some (.int v2.1), none]) d_Law_main_794 rfl (by decide) rfl rfl ?_
  refine w_aload_n (q := 797) d_Law_main_796 rfl rfl ?_
  refine w_aload_n (q := 798) d_Law_main_797 rfl rfl ?_
  refine w_iload (q := 800) d_Law_main_798 rfl rfl ?_
  refine w_iconst (q := 801) (v := 1) d_Law_main_800 rfl (by decide) ?_
  refine w_iadd (q := 802) d_Law_main_801 rfl ?_
  obtain ⟨v3, hv, h⟩ := bnd h
  obtain ⟨hi, hv⟩ := rx_ok hv
  refine w_sld (q := 803) d_Law_main_802 rfl hi ?_
  rw [hv]
  obtain ⟨v4, hv, h⟩ := bnd h
  refine w_callVi (q := 806) (M' := M_Model_die) (n' := 2) (k := 54) (As := [.int v3]) (sh' := SH) (b1 := (0, 0)) d_Law_main_803 rfl mw_Model_die (by decide) (by decide) ml_Law_169 (by decide) s_54 (by decide) rfl rfl rfl (leb rfl) (bz _) (fun _ => rfl) (ok_Model_die hv) ?_
  refine w_istore (q := 808) (ls' := [some (.ref 2097152), some (.ref 0), some (.ref 54), some (.ref 78), some (.int i), some (.int v2.1), some (.int v4.1)]) d_Law_main_806 rfl (by decide) rfl rfl ?_
  refine w_goto (q := 1473) d_Law_main_808 rfl ?_
  cases h
  refine w_ls (ls' := [some (.ref 2097152), some (.ref 0), some (.ref 54), some (.ref 78), some (.int i), none, none]) (And.intro rfl (And.intro rfl (And.intro rfl (And.intro rfl (And.intro rfl trivial))))) ?_
  exact hr
def sp_case_16 (F L : Nat) (xs : Nat → Int32) (i : Int32) (g : Mem) : Option (Mem ⊕ Unit) := (sp_Hall_undo g).bind fun v1 => (sp_Model_undo F v1.2).bind fun v2 => some (.inl v2.2)
theorem ok_case_16 {γ : GG} {F : Nat} {i : Int32} {g : Mem} {b : Nat × Nat} {Φ : PO} {r : Mem ⊕ Unit} (h : sp_case_16 F (gS γ).2.1 (gS γ).2.2 i g = some r) (hr : RQ (fun g9 => WA γ M_Law_main 130 1473 (lwL i) [] SH g9 false b Φ) (fun _ => False) r) : WA γ M_Law_main 130 811 (lwL i) [] SH g false (1 + b.1, 6 + b.2) Φ := by
  unfold sp_case_16 at h
  refine w_aload_n (q := 812) d_Law_main_811 rfl rfl ?_
  obtain ⟨v1, hv, h⟩ := bnd h
  refine w_callVi (q := 815) (M' := M_Hall_undo) (n' := 2) (k := 0) (As := []) (sh' := SH) (b1 := (0, 0)) d_Law_main_812 rfl mw_Hall_undo (by decide) (by decide) ml_Law_170 (by decide) s_0 (by decide) rfl rfl rfl (leb rfl) (bz _) (fun _ => rfl) (ok_Hall_undo hv) ?_
  refine w_pop (q := 816) d_Law_main_815 rfl rfl ?_
  refine w_aload_n (q := 817) d_Law_main_816 rfl rfl ?_
  obtain ⟨v2, hv, h⟩ := bnd h
  refine w_callVi (q := 820) (M' := M_Model_undo) (n' := 1) (k := 54) (As := []) (sh' := SH) (b1 := (0, 0)) d_Law_main_817 rfl mw_Model_undo (by decide) (by decide) ml_Law_173 (by decide) s_54 (by decide) rfl rfl rfl (leb rfl) (bz _) (fun _ => rfl) (ok_Model_undo hv) ?_
  refine w_pop (q := 821) d_Law_main_820 rfl rfl ?_
  refine w_goto (q := 1473) d_Law_main_821 rfl ?_
  cases h
  refine w_ls (ls' := [some (.ref 2097152), some (.ref 0), some (.ref 54), some (.ref 78), some (.int i), none, none]) (And.intro rfl (And.intro rfl (And.intro rfl (And.intro rfl (And.intro rfl trivial))))) ?_
  exact w_wide (Nat.le_add_left _ _) (Nat.le_add_left _ _) hr
def sp_case_17 (F L : Nat) (xs : Nat → Int32) (i : Int32) (g : Mem) : Option (Mem ⊕ Unit) := (rx L xs (i + 1)).bind fun v1 => (sp_Law_law F v1 g).bind fun v2 => (rx L xs (i + 1)).bind fun v3 => (sp_Model_law F v3 v2.2).bind fun v4 => some (.inl v4.2)
theorem ok_case_17 {γ : GG} {F : Nat} {i : Int32} {g : Mem} {b : Nat × Nat} {Φ : PO} {r : Mem ⊕ Unit} (h : sp_case_17 F (gS γ).2.1 (gS γ).2.2 i g = some r) (hr : RQ (fun g9 => WA γ M_Law_main 130 1473 (lwL i) [] SH g9 false b Φ) (fun _ => False) r) : WA γ M_Law_main 130 824 (lwL i) [] SH g false (1 + b.1, 6 + b.2) Φ := by
  unfold sp_case_17 at h
  refine w_aload_n (q := 825) d_Law_main_824 rfl rfl ?_
  refine w_aload_n (q := 826) d_Law_main_825 rfl rfl ?_
  refine w_iload (q := 828) d_Law_main_826 rfl rfl ?_
  refine w_iconst (q := 829) (v := 1) d_Law_main_828 rfl (by decide) ?_
  refine w_iadd (q := 830) d_Law_main_829 rfl ?_
  obtain ⟨v1, hv, h⟩ := bnd h
  obtain ⟨hi, hv⟩ := rx_ok hv
  refine w_sld (q := 831) d_Law_main_830 rfl hi ?_
  rw [hv]
  refine w_aload_n (q := 832) d_Law_main_831 rfl rfl ?_
  obtain ⟨v2, hv, h⟩ := bnd h
  refine w_callHi (q := 835) (M' := M_Law_law) (n' := 5) (As := [.ref 0, .int v1, .ref 78]) (sh' := SH) (b1 := (1, 6)) (b2 := b) d_Law_main_832 rfl mw_Law_law (by decide) (by decide) ml_Law_174 rfl rfl (leb rfl) rfl (fun h9 => absurd h9 (by decide)) (ok_Law_law hv) ?_
  refine w_istore (q := 837) (ls' := [some (.ref 2097152), some (.ref 0), some (.ref 54), some (.ref 78), some (.int i), some (.int v2.1), none]) d_Law_main_835 rfl (by decide) rfl rfl ?_
  refine w_aload_n (q := 838) d_Law_main_837 rfl rfl ?_
  refine w_aload_n (q := 839) d_Law_main_838 rfl rfl ?_
  refine w_iload (q := 841) d_Law_main_839 rfl rfl ?_
  refine w_iconst (q := 842) (v := 1) d_Law_main_841 rfl (by decide) ?_
  refine w_iadd (q := 843) d_Law_main_842 rfl ?_
  obtain ⟨v3, hv, h⟩ := bnd h
  obtain ⟨hi, hv⟩ := rx_ok hv
  refine w_sld (q := 844) d_Law_main_843 rfl hi ?_
  rw [hv]
  obtain ⟨v4, hv, h⟩ := bnd h
  refine w_callVi (q := 847) (M' := M_Model_law) (n' := 3) (k := 54) (As := [.int v3]) (sh' := SH) (b1 := (0, 0)) d_Law_main_844 rfl mw_Model_law (by decide) (by decide) ml_Law_176 (by decide) s_54 (by decide) rfl rfl rfl (leb rfl) (bz _) (fun _ => rfl) (ok_Model_law hv) ?_
  refine w_istore (q := 849) (ls' := [some (.ref 2097152), some (.ref 0), some (.ref 54), some (.ref 78), some (.int i), some (.int v2.1), some (.int v4.1)]) d_Law_main_847 rfl (by decide) rfl rfl ?_
  refine w_goto (q := 1473) d_Law_main_849 rfl ?_
  cases h
  refine w_ls (ls' := [some (.ref 2097152), some (.ref 0), some (.ref 54), some (.ref 78), some (.int i), none, none]) (And.intro rfl (And.intro rfl (And.intro rfl (And.intro rfl (And.intro rfl trivial))))) ?_
  exact hr
def sp_case_18 (F L : Nat) (xs : Nat → Int32) (i : Int32) (g : Mem) : Option (Mem ⊕ Unit) := (sp_Hall_rivals F g).bind fun v1 => (sp_Model_rivals F g).bind fun v2 => some (.inl v2.2)
theorem ok_case_18 {γ : GG} {F : Nat} {i : Int32} {g : Mem} {b : Nat × Nat} {Φ : PO} {r : Mem ⊕ Unit} (h : sp_case_18 F (gS γ).2.1 (gS γ).2.2 i g = some r) (hr : RQ (fun g9 => WA γ M_Law_main 130 1473 (lwL i) [] SH g9 false b Φ) (fun _ => False) r) : WA γ M_Law_main 130 852 (lwL i) [] SH g false (1 + b.1, 6 + b.2) Φ := by
  unfold sp_case_18 at h
  refine w_aload_n (q := 853) d_Law_main_852 rfl rfl ?_
  obtain ⟨v1, hv, h⟩ := bnd h
  refine w_callVi (q := 856) (M' := M_Hall_rivals) (n' := 4) (k := 0) (As := []) (sh' := SH) (b1 := (0, 0)) d_Law_main_853 rfl mw_Hall_rivals (by decide) (by decide) ml_Law_177 (by decide) s_0 (by decide) rfl rfl rfl (leb rfl) (bz _) (fun _ => rfl) (ok_Hall_rivals hv) ?_
  refine w_pop (q := 857) d_Law_main_856 rfl rfl ?_
  refine w_aload_n (q := 858) d_Law_main_857 rfl rfl ?_
  obtain ⟨v2, hv, h⟩ := bnd h
  refine w_callVi (q := 861) (M' := M_Model_rivals) (n' := 4) (k := 54) (As := []) (sh' := SH) (b1 := (0, 0)) d_Law_main_858 rfl mw_Model_rivals (by decide) (by decide) ml_Law_180 (by decide) s_54 (by decide) rfl rfl rfl (leb rfl) (bz _) (fun _ => rfl) (ok_Model_rivals hv) ?_
  refine w_pop (q := 862) d_Law_main_861 rfl rfl ?_
  refine w_goto (q := 1473) d_Law_main_862 rfl ?_
  cases h
  refine w_ls (ls' := [some (.ref 2097152), some (.ref 0), some (.ref 54), some (.ref 78), some (.int i), none, none]) (And.intro rfl (And.intro rfl (And.intro rfl (And.intro rfl (And.intro rfl trivial))))) ?_
  exact w_wide (Nat.le_add_left _ _) (Nat.le_add_left _ _) hr
def sp_case_19 (F L : Nat) (xs : Nat → Int32) (i : Int32) (g : Mem) : Option (Mem ⊕ Unit) := (rx L xs (i + 1)).bind fun v1 => (sp_Law_owed F v1 g).bind fun v2 => (rx L xs (i + 1)).bind fun v3 => (sp_Model_owed F v3 v2.2).bind fun v4 => some (.inl v4.2)
theorem ok_case_19 {γ : GG} {F : Nat} {i : Int32} {g : Mem} {b : Nat × Nat} {Φ : PO} {r : Mem ⊕ Unit} (h : sp_case_19 F (gS γ).2.1 (gS γ).2.2 i g = some r) (hr : RQ (fun g9 => WA γ M_Law_main 130 1473 (lwL i) [] SH g9 false b Φ) (fun _ => False) r) : WA γ M_Law_main 130 865 (lwL i) [] SH g false (1 + b.1, 6 + b.2) Φ := by
  unfold sp_case_19 at h
  refine w_aload_n (q := 866) d_Law_main_865 rfl rfl ?_
  refine w_aload_n (q := 867) d_Law_main_866 rfl rfl ?_
  refine w_iload (q := 869) d_Law_main_867 rfl rfl ?_
  refine w_iconst (q := 870) (v := 1) d_Law_main_869 rfl (by decide) ?_
  refine w_iadd (q := 871) d_Law_main_870 rfl ?_
  obtain ⟨v1, hv, h⟩ := bnd h
  obtain ⟨hi, hv⟩ := rx_ok hv
  refine w_sld (q := 872) d_Law_main_871 rfl hi ?_
  rw [hv]
  refine w_aload_n (q := 873) d_Law_main_872 rfl rfl ?_
  obtain ⟨v2, hv, h⟩ := bnd h
  refine w_callHi (q := 876) (M' := M_Law_owed) (n' := 5) (As := [.ref 0, .int v1, .ref 78]) (sh' := SH) (b1 := (1, 6)) (b2 := b) d_Law_main_873 rfl mw_Law_owed (by decide) (by decide) ml_Law_181 rfl rfl (leb rfl) rfl (fun h9 => absurd h9 (by decide)) (ok_Law_owed hv) ?_
  refine w_istore (q := 878) (ls' := [some (.ref 2097152), some (.ref 0), some (.ref 54), some (.ref 78), some (.int i), some (.int v2.1), none]) d_Law_main_876 rfl (by decide) rfl rfl ?_
  refine w_aload_n (q := 879) d_Law_main_878 rfl rfl ?_
  refine w_aload_n (q := 880) d_Law_main_879 rfl rfl ?_
  refine w_iload (q := 882) d_Law_main_880 rfl rfl ?_
  refine w_iconst (q := 883) (v := 1) d_Law_main_882 rfl (by decide) ?_
  refine w_iadd (q := 884) d_Law_main_883 rfl ?_
  obtain ⟨v3, hv, h⟩ := bnd h
  obtain ⟨hi, hv⟩ := rx_ok hv
  refine w_sld (q := 885) d_Law_main_884 rfl hi ?_
  rw [hv]
  obtain ⟨v4, hv, h⟩ := bnd h
  refine w_callVi (q := 888) (M' := M_Model_owed) (n' := 3) (k := 54) (As := [.int v3]) (sh' := SH) (b1 := (0, 0)) d_Law_main_885 rfl mw_Model_owed (by decide) (by decide) ml_Law_183 (by decide) s_54 (by decide) rfl rfl rfl (leb rfl) (bz _) (fun _ => rfl) (ok_Model_owed hv) ?_
  refine w_istore (q := 890) (ls' := [some (.ref 2097152), some (.ref 0), some (.ref 54), some (.ref 78), some (.int i), some (.int v2.1), some (.int v4.1)]) d_Law_main_888 rfl (by decide) rfl rfl ?_
  refine w_goto (q := 1473) d_Law_main_890 rfl ?_
  cases h
  refine w_ls (ls' := [some (.ref 2097152), some (.ref 0), some (.ref 54), some (.ref 78), some (.int i), none, none]) (And.intro rfl (And.intro rfl (And.intro rfl (And.intro rfl (And.intro rfl trivial))))) ?_
  exact hr
def sp_case_20 (F L : Nat) (xs : Nat → Int32) (i : Int32) (g : Mem) : Option (Mem ⊕ Unit) := (sp_Hall_cover F g).bind fun v1 => (sp_Model_cover F v1.2).bind fun v2 => some (.inl v2.2)
theorem ok_case_20 {γ : GG} {F : Nat} {i : Int32} {g : Mem} {b : Nat × Nat} {Φ : PO} {r : Mem ⊕ Unit} (h : sp_case_20 F (gS γ).2.1 (gS γ).2.2 i g = some r) (hr : RQ (fun g9 => WA γ M_Law_main 130 1473 (lwL i) [] SH g9 false b Φ) (fun _ => False) r) : WA γ M_Law_main 130 893 (lwL i) [] SH g false (1 + b.1, 6 + b.2) Φ := by
  unfold sp_case_20 at h
  refine w_aload_n (q := 894) d_Law_main_893 rfl rfl ?_
  obtain ⟨v1, hv, h⟩ := bnd h
  refine w_callVi (q := 897) (M' := M_Hall_cover) (n' := 4) (k := 0) (As := []) (sh' := SH) (b1 := (0, 0)) d_Law_main_894 rfl mw_Hall_cover (by decide) (by decide) ml_Law_184 (by decide) s_0 (by decide) rfl rfl rfl (leb rfl) (bz _) (fun _ => rfl) (ok_Hall_cover hv) ?_
  refine w_pop (q := 898) d_Law_main_897 rfl rfl ?_
  refine w_aload_n (q := 899) d_Law_main_898 rfl rfl ?_
  obtain ⟨v2, hv, h⟩ := bnd h
  refine w_callVi (q := 902) (M' := M_Model_cover) (n' := 3) (k := 54) (As := []) (sh' := SH) (b1 := (0, 0)) d_Law_main_899 rfl mw_Model_cover (by decide) (by decide) ml_Law_187 (by decide) s_54 (by decide) rfl rfl rfl (leb rfl) (bz _) (fun _ => rfl) (ok_Model_cover hv) ?_
  refine w_pop (q := 903) d_Law_main_902 rfl rfl ?_
  refine w_goto (q := 1473) d_Law_main_903 rfl ?_
  cases h
  refine w_ls (ls' := [some (.ref 2097152), some (.ref 0), some (.ref 54), some (.ref 78), some (.int i), none, none]) (And.intro rfl (And.intro rfl (And.intro rfl (And.intro rfl (And.intro rfl trivial))))) ?_
  exact w_wide (Nat.le_add_left _ _) (Nat.le_add_left _ _) hr
def sp_case_21 (F L : Nat) (xs : Nat → Int32) (i : Int32) (g : Mem) : Option (Mem ⊕ Unit) := (sp_Hall_alone F g).bind fun v1 => (sp_Model_alone F g).bind fun v2 => some (.inl v2.2)
theorem ok_case_21 {γ : GG} {F : Nat} {i : Int32} {g : Mem} {b : Nat × Nat} {Φ : PO} {r : Mem ⊕ Unit} (h : sp_case_21 F (gS γ).2.1 (gS γ).2.2 i g = some r) (hr : RQ (fun g9 => WA γ M_Law_main 130 1473 (lwL i) [] SH g9 false b Φ) (fun _ => False) r) : WA γ M_Law_main 130 906 (lwL i) [] SH g false (1 + b.1, 6 + b.2) Φ := by
  unfold sp_case_21 at h
  refine w_aload_n (q := 907) d_Law_main_906 rfl rfl ?_
  obtain ⟨v1, hv, h⟩ := bnd h
  refine w_callVi (q := 910) (M' := M_Hall_alone) (n' := 4) (k := 0) (As := []) (sh' := SH) (b1 := (0, 0)) d_Law_main_907 rfl mw_Hall_alone (by decide) (by decide) ml_Law_188 (by decide) s_0 (by decide) rfl rfl rfl (leb rfl) (bz _) (fun _ => rfl) (ok_Hall_alone hv) ?_
  refine w_pop (q := 911) d_Law_main_910 rfl rfl ?_
  refine w_aload_n (q := 912) d_Law_main_911 rfl rfl ?_
  obtain ⟨v2, hv, h⟩ := bnd h
  refine w_callVi (q := 915) (M' := M_Model_alone) (n' := 3) (k := 54) (As := []) (sh' := SH) (b1 := (0, 0)) d_Law_main_912 rfl mw_Model_alone (by decide) (by decide) ml_Law_191 (by decide) s_54 (by decide) rfl rfl rfl (leb rfl) (bz _) (fun _ => rfl) (ok_Model_alone hv) ?_
  refine w_pop (q := 916) d_Law_main_915 rfl rfl ?_
  refine w_goto (q := 1473) d_Law_main_916 rfl ?_
  cases h
  refine w_ls (ls' := [some (.ref 2097152), some (.ref 0), some (.ref 54), some (.ref 78), some (.int i), none, none]) (And.intro rfl (And.intro rfl (And.intro rfl (And.intro rfl (And.intro rfl trivial))))) ?_
  exact w_wide (Nat.le_add_left _ _) (Nat.le_add_left _ _) hr
def sp_case_22 (F L : Nat) (xs : Nat → Int32) (i : Int32) (g : Mem) : Option (Mem ⊕ Unit) := (rx L xs (i + 1)).bind fun v1 => (sp_Law_barbers F v1 g).bind fun v2 => (rx L xs (i + 1)).bind fun v3 => (sp_Model_barbers F v3 v2.2).bind fun v4 => some (.inl v4.2)
theorem ok_case_22 {γ : GG} {F : Nat} {i : Int32} {g : Mem} {b : Nat × Nat} {Φ : PO} {r : Mem ⊕ Unit} (h : sp_case_22 F (gS γ).2.1 (gS γ).2.2 i g = some r) (hr : RQ (fun g9 => WA γ M_Law_main 130 1473 (lwL i) [] SH g9 false b Φ) (fun _ => False) r) : WA γ M_Law_main 130 919 (lwL i) [] SH g false (1 + b.1, 6 + b.2) Φ := by
  unfold sp_case_22 at h
  refine w_aload_n (q := 920) d_Law_main_919 rfl rfl ?_
  refine w_aload_n (q := 921) d_Law_main_920 rfl rfl ?_
  refine w_iload (q := 923) d_Law_main_921 rfl rfl ?_
  refine w_iconst (q := 924) (v := 1) d_Law_main_923 rfl (by decide) ?_
  refine w_iadd (q := 925) d_Law_main_924 rfl ?_
  obtain ⟨v1, hv, h⟩ := bnd h
  obtain ⟨hi, hv⟩ := rx_ok hv
  refine w_sld (q := 926) d_Law_main_925 rfl hi ?_
  rw [hv]
  refine w_aload_n (q := 927) d_Law_main_926 rfl rfl ?_
  obtain ⟨v2, hv, h⟩ := bnd h
  refine w_callHi (q := 930) (M' := M_Law_barbers) (n' := 7) (As := [.ref 0, .int v1, .ref 78]) (sh' := SH) (b1 := (1, 6)) (b2 := b) d_Law_main_927 rfl mw_Law_barbers (by decide) (by decide) ml_Law_192 rfl rfl (leb rfl) rfl (fun h9 => absurd h9 (by decide)) (ok_Law_barbers hv) ?_
  refine w_istore (q := 932) (ls' := [some (.ref 2097152), some (.ref 0), some (.ref 54), some (.ref 78), some (.int i), some (.int v2.1), none]) d_Law_main_930 rfl (by decide) rfl rfl ?_
  refine w_aload_n (q := 933) d_Law_main_932 rfl rfl ?_
  refine w_aload_n (q := 934) d_Law_main_933 rfl rfl ?_
  refine w_iload (q := 936) d_Law_main_934 rfl rfl ?_
  refine w_iconst (q := 937) (v := 1) d_Law_main_936 rfl (by decide) ?_
  refine w_iadd (q := 938) d_Law_main_937 rfl ?_
  obtain ⟨v3, hv, h⟩ := bnd h
  obtain ⟨hi, hv⟩ := rx_ok hv
  refine w_sld (q := 939) d_Law_main_938 rfl hi ?_
  rw [hv]
  obtain ⟨v4, hv, h⟩ := bnd h
  refine w_callVi (q := 942) (M' := M_Model_barbers) (n' := 6) (k := 54) (As := [.int v3]) (sh' := SH) (b1 := (0, 0)) d_Law_main_939 rfl mw_Model_barbers (by decide) (by decide) ml_Law_194 (by decide) s_54 (by decide) rfl rfl rfl (leb rfl) (bz _) (fun _ => rfl) (ok_Model_barbers hv) ?_
  refine w_istore (q := 944) (ls' := [some (.ref 2097152), some (.ref 0), some (.ref 54), some (.ref 78), some (.int i), some (.int v2.1), some (.int v4.1)]) d_Law_main_942 rfl (by decide) rfl rfl ?_
  refine w_goto (q := 1473) d_Law_main_944 rfl ?_
  cases h
  refine w_ls (ls' := [some (.ref 2097152), some (.ref 0), some (.ref 54), some (.ref 78), some (.int i), none, none]) (And.intro rfl (And.intro rfl (And.intro rfl (And.intro rfl (And.intro rfl trivial))))) ?_
  exact hr
def sp_case_23 (F L : Nat) (xs : Nat → Int32) (i : Int32) (g : Mem) : Option (Mem ⊕ Unit) := (rx L xs (i + 1)).bind fun v1 => (sp_Law_shortest F v1 g).bind fun v2 => (rx L xs (i + 1)).bind fun v3 => (sp_Model_shortest F v3 v2.2).bind fun v4 => some (.inl v4.2)
theorem ok_case_23 {γ : GG} {F : Nat} {i : Int32} {g : Mem} {b : Nat × Nat} {Φ : PO} {r : Mem ⊕ Unit} (h : sp_case_23 F (gS γ).2.1 (gS γ).2.2 i g = some r) (hr : RQ (fun g9 => WA γ M_Law_main 130 1473 (lwL i) [] SH g9 false b Φ) (fun _ => False) r) : WA γ M_Law_main 130 947 (lwL i) [] SH g false (1 + b.1, 6 + b.2) Φ := by
  unfold sp_case_23 at h
  refine w_aload_n (q := 948) d_Law_main_947 rfl rfl ?_
  refine w_aload_n (q := 949) d_Law_main_948 rfl rfl ?_
  refine w_iload (q := 951) d_Law_main_949 rfl rfl ?_
  refine w_iconst (q := 952) (v := 1) d_Law_main_951 rfl (by decide) ?_
  refine w_iadd (q := 953) d_Law_main_952 rfl ?_
  obtain ⟨v1, hv, h⟩ := bnd h
  obtain ⟨hi, hv⟩ := rx_ok hv
  refine w_sld (q := 954) d_Law_main_953 rfl hi ?_
  rw [hv]
  refine w_aload_n (q := 955) d_Law_main_954 rfl rfl ?_
  obtain ⟨v2, hv, h⟩ := bnd h
  refine w_callHi (q := 958) (M' := M_Law_shortest) (n' := 6) (As := [.ref 0, .int v1, .ref 78]) (sh' := SH) (b1 := (1, 6)) (b2 := b) d_Law_main_955 rfl mw_Law_shortest (by decide) (by decide) ml_Law_195 rfl rfl (leb rfl) rfl (fun h9 => absurd h9 (by decide)) (ok_Law_shortest hv) ?_
  refine w_istore (q := 960) (ls' := [some (.ref 2097152), some (.ref 0), some (.ref 54), some (.ref 78), some (.int i), some (.int v2.1), none]) d_Law_main_958 rfl (by decide) rfl rfl ?_
  refine w_aload_n (q := 961) d_Law_main_960 rfl rfl ?_
  refine w_aload_n (q := 962) d_Law_main_961 rfl rfl ?_
  refine w_iload (q := 964) d_Law_main_962 rfl rfl ?_
  refine w_iconst (q := 965) (v := 1) d_Law_main_964 rfl (by decide) ?_
  refine w_iadd (q := 966) d_Law_main_965 rfl ?_
  obtain ⟨v3, hv, h⟩ := bnd h
  obtain ⟨hi, hv⟩ := rx_ok hv
  refine w_sld (q := 967) d_Law_main_966 rfl hi ?_
  rw [hv]
  obtain ⟨v4, hv, h⟩ := bnd h
  refine w_callVi (q := 970) (M' := M_Model_shortest) (n' := 5) (k := 54) (As := [.int v3]) (sh' := SH) (b1 := (0, 0)) d_Law_main_967 rfl mw_Model_shortest (by decide) (by decide) ml_Law_197 (by decide) s_54 (by decide) rfl rfl rfl (leb rfl) (bz _) (fun _ => rfl) (ok_Model_shortest hv) ?_
  refine w_istore (q := 972) (ls' := [some (.ref 2097152), some (.ref 0), some (.ref 54), some (.ref 78), some (.int i), some (.int v2.1), some (.int v4.1)]) d_Law_main_970 rfl (by decide) rfl rfl ?_
  refine w_goto (q := 1473) d_Law_main_972 rfl ?_
  cases h
  refine w_ls (ls' := [some (.ref 2097152), some (.ref 0), some (.ref 54), some (.ref 78), some (.int i), none, none]) (And.intro rfl (And.intro rfl (And.intro rfl (And.intro rfl (And.intro rfl trivial))))) ?_
  exact hr
def sp_case_24 (F L : Nat) (xs : Nat → Int32) (i : Int32) (g : Mem) : Option (Mem ⊕ Unit) := (rx L xs (i + 1)).bind fun v1 => (rx L xs (i + 2)).bind fun v2 => (rx L xs (i + 3)).bind fun v3 => (sp_Law_amnesty F v1 v2 v3 g).bind fun v4 => (rx L xs (i + 1)).bind fun v5 => (rx L xs (i + 2)).bind fun v6 => (rx L xs (i + 3)).bind fun v7 => (sp_Model_amnesty F v5 v6 v7 v4.2).bind fun v8 => some (.inl v8.2)
theorem ok_case_24 {γ : GG} {F : Nat} {i : Int32} {g : Mem} {b : Nat × Nat} {Φ : PO} {r : Mem ⊕ Unit} (h : sp_case_24 F (gS γ).2.1 (gS γ).2.2 i g = some r) (hr : RQ (fun g9 => WA γ M_Law_main 130 1473 (lwL i) [] SH g9 false b Φ) (fun _ => False) r) : WA γ M_Law_main 130 975 (lwL i) [] SH g false (1 + b.1, 6 + b.2) Φ := by
  unfold sp_case_24 at h
  refine w_aload_n (q := 976) d_Law_main_975 rfl rfl ?_
  refine w_aload_n (q := 977) d_Law_main_976 rfl rfl ?_
  refine w_iload (q := 979) d_Law_main_977 rfl rfl ?_
  refine w_iconst (q := 980) (v := 1) d_Law_main_979 rfl (by decide) ?_
  refine w_iadd (q := 981) d_Law_main_980 rfl ?_
  obtain ⟨v1, hv, h⟩ := bnd h
  obtain ⟨hi, hv⟩ := rx_ok hv
  refine w_sld (q := 982) d_Law_main_981 rfl hi ?_
  rw [hv]
  refine w_aload_n (q := 983) d_Law_main_982 rfl rfl ?_
  refine w_iload (q := 985) d_Law_main_983 rfl rfl ?_
  refine w_iconst (q := 986) (v := 2) d_Law_main_985 rfl (by decide) ?_
  refine w_iadd (q := 987) d_Law_main_986 rfl ?_
  obtain ⟨v2, hv, h⟩ := bnd h
  obtain ⟨hi, hv⟩ := rx_ok hv
  refine w_sld (q := 988) d_Law_main_987 rfl hi ?_
  rw [hv]
  refine w_aload_n (q := 989) d_Law_main_988 rfl rfl ?_
  refine w_iload (q := 991) d_Law_main_989 rfl rfl ?_
  refine w_iconst (q := 992) (v := 3) d_Law_main_991 rfl (by decide) ?_
  refine w_iadd (q := 993) d_Law_main_992 rfl ?_
  obtain ⟨v3, hv, h⟩ := bnd h
  obtain ⟨hi, hv⟩ := rx_ok hv
  refine w_sld (q := 994) d_Law_main_993 rfl hi ?_
  rw [hv]
  refine w_aload_n (q := 995) d_Law_main_994 rfl rfl ?_
  obtain ⟨v4, hv, h⟩ := bnd h
  refine w_callHi (q := 998) (M' := M_Law_amnesty) (n' := 7) (As := [.ref 0, .int v1, .int v2, .int v3, .ref 78]) (sh' := SH) (b1 := (1, 6)) (b2 := b) d_Law_main_995 rfl mw_Law_amnesty (by decide) (by decide) ml_Law_198 rfl rfl (leb rfl) rfl (fun h9 => absurd h9 (by decide)) (ok_Law_amnesty hv) ?_
  refine w_istore (q := 1000) (ls' := [some (.ref 2097152), some (.ref 0), some (.ref 54), some (.ref 78), some (.int i), some (.int v4.1), none]) d_Law_main_998 rfl (by decide) rfl rfl ?_
  refine w_aload_n (q := 1001) d_Law_main_1000 rfl rfl ?_
  refine w_aload_n (q := 1002) d_Law_main_1001 rfl rfl ?_
  refine w_iload (q := 1004) d_Law_main_1002 rfl rfl ?_
  refine w_iconst (q := 1005) (v := 1) d_Law_main_1004 rfl (by decide) ?_
  refine w_iadd (q := 1006) d_Law_main_1005 rfl ?_
  obtain ⟨v5, hv, h⟩ := bnd h
  obtain ⟨hi, hv⟩ := rx_ok hv
  refine w_sld (q := 1007) d_Law_main_1006 rfl hi ?_
  rw [hv]
  refine w_aload_n (q := 1008) d_Law_main_1007 rfl rfl ?_
  refine w_iload (q := 1010) d_Law_main_1008 rfl rfl ?_
  refine w_iconst (q := 1011) (v := 2) d_Law_main_1010 rfl (by decide) ?_
  refine w_iadd (q := 1012) d_Law_main_1011 rfl ?_
  obtain ⟨v6, hv, h⟩ := bnd h
  obtain ⟨hi, hv⟩ := rx_ok hv
  refine w_sld (q := 1013) d_Law_main_1012 rfl hi ?_
  rw [hv]
  refine w_aload_n (q := 1014) d_Law_main_1013 rfl rfl ?_
  refine w_iload (q := 1016) d_Law_main_1014 rfl rfl ?_
  refine w_iconst (q := 1017) (v := 3) d_Law_main_1016 rfl (by decide) ?_
  refine w_iadd (q := 1018) d_Law_main_1017 rfl ?_
  obtain ⟨v7, hv, h⟩ := bnd h
  obtain ⟨hi, hv⟩ := rx_ok hv
  refine w_sld (q := 1019) d_Law_main_1018 rfl hi ?_
  rw [hv]
  obtain ⟨v8, hv, h⟩ := bnd h
  refine w_callVi (q := 1022) (M' := M_Model_amnesty) (n' := 5) (k := 54) (As := [.int v5, .int v6, .int v7]) (sh' := SH) (b1 := (0, 0)) d_Law_main_1019 rfl mw_Model_amnesty (by decide) (by decide) ml_Law_200 (by decide) s_54 (by decide) rfl rfl rfl (leb rfl) (bz _) (fun _ => rfl) (ok_Model_amnesty hv) ?_
  refine w_istore (q := 1024) (ls' := [some (.ref 2097152), some (.ref 0), some (.ref 54), some (.ref 78), some (.int i), some (.int v4.1), some (.int v8.1)]) d_Law_main_1022 rfl (by decide) rfl rfl ?_
  refine w_goto (q := 1473) d_Law_main_1024 rfl ?_
  cases h
  refine w_ls (ls' := [some (.ref 2097152), some (.ref 0), some (.ref 54), some (.ref 78), some (.int i), none, none]) (And.intro rfl (And.intro rfl (And.intro rfl (And.intro rfl (And.intro rfl trivial))))) ?_
  exact hr
def sp_case_25 (F L : Nat) (xs : Nat → Int32) (i : Int32) (g : Mem) : Option (Mem ⊕ Unit) := (rx L xs (i + 1)).bind fun v1 => (rx L xs (i + 2)).bind fun v2 => (sp_Law_week F v1 v2 g).bind fun v3 => (rx L xs (i + 1)).bind fun v4 => (rx L xs (i + 2)).bind fun v5 => (sp_Model_week F v4 v5 v3.2).bind fun v6 => some (.inl v6.2)
theorem ok_case_25 {γ : GG} {F : Nat} {i : Int32} {g : Mem} {b : Nat × Nat} {Φ : PO} {r : Mem ⊕ Unit} (h : sp_case_25 F (gS γ).2.1 (gS γ).2.2 i g = some r) (hr : RQ (fun g9 => WA γ M_Law_main 130 1473 (lwL i) [] SH g9 false b Φ) (fun _ => False) r) : WA γ M_Law_main 130 1027 (lwL i) [] SH g false (1 + b.1, 6 + b.2) Φ := by
  unfold sp_case_25 at h
  refine w_aload_n (q := 1028) d_Law_main_1027 rfl rfl ?_
  refine w_aload_n (q := 1029) d_Law_main_1028 rfl rfl ?_
  refine w_iload (q := 1031) d_Law_main_1029 rfl rfl ?_
  refine w_iconst (q := 1032) (v := 1) d_Law_main_1031 rfl (by decide) ?_
  refine w_iadd (q := 1033) d_Law_main_1032 rfl ?_
  obtain ⟨v1, hv, h⟩ := bnd h
  obtain ⟨hi, hv⟩ := rx_ok hv
  refine w_sld (q := 1034) d_Law_main_1033 rfl hi ?_
  rw [hv]
  refine w_aload_n (q := 1035) d_Law_main_1034 rfl rfl ?_
  refine w_iload (q := 1037) d_Law_main_1035 rfl rfl ?_
  refine w_iconst (q := 1038) (v := 2) d_Law_main_1037 rfl (by decide) ?_
  refine w_iadd (q := 1039) d_Law_main_1038 rfl ?_
  obtain ⟨v2, hv, h⟩ := bnd h
  obtain ⟨hi, hv⟩ := rx_ok hv
  refine w_sld (q := 1040) d_Law_main_1039 rfl hi ?_
  rw [hv]
  refine w_aload_n (q := 1041) d_Law_main_1040 rfl rfl ?_
  obtain ⟨v3, hv, h⟩ := bnd h
  refine w_callHi (q := 1044) (M' := M_Law_week) (n' := 5) (As := [.ref 0, .int v1, .int v2, .ref 78]) (sh' := SH) (b1 := (1, 6)) (b2 := b) d_Law_main_1041 rfl mw_Law_week (by decide) (by decide) ml_Law_201 rfl rfl (leb rfl) rfl (fun h9 => absurd h9 (by decide)) (ok_Law_week hv) ?_
  refine w_istore (q := 1046) (ls' := [some (.ref 2097152), some (.ref 0), some (.ref 54), some (.ref 78), some (.int i), some (.int v3.1), none]) d_Law_main_1044 rfl (by decide) rfl rfl ?_
  refine w_aload_n (q := 1047) d_Law_main_1046 rfl rfl ?_
  refine w_aload_n (q := 1048) d_Law_main_1047 rfl rfl ?_
  refine w_iload (q := 1050) d_Law_main_1048 rfl rfl ?_
  refine w_iconst (q := 1051) (v := 1) d_Law_main_1050 rfl (by decide) ?_
  refine w_iadd (q := 1052) d_Law_main_1051 rfl ?_
  obtain ⟨v4, hv, h⟩ := bnd h
  obtain ⟨hi, hv⟩ := rx_ok hv
  refine w_sld (q := 1053) d_Law_main_1052 rfl hi ?_
  rw [hv]
  refine w_aload_n (q := 1054) d_Law_main_1053 rfl rfl ?_
  refine w_iload (q := 1056) d_Law_main_1054 rfl rfl ?_
  refine w_iconst (q := 1057) (v := 2) d_Law_main_1056 rfl (by decide) ?_
  refine w_iadd (q := 1058) d_Law_main_1057 rfl ?_
  obtain ⟨v5, hv, h⟩ := bnd h
  obtain ⟨hi, hv⟩ := rx_ok hv
  refine w_sld (q := 1059) d_Law_main_1058 rfl hi ?_
  rw [hv]
  obtain ⟨v6, hv, h⟩ := bnd h
  refine w_callVi (q := 1062) (M' := M_Model_week) (n' := 3) (k := 54) (As := [.int v4, .int v5]) (sh' := SH) (b1 := (0, 0)) d_Law_main_1059 rfl mw_Model_week (by decide) (by decide) ml_Law_203 (by decide) s_54 (by decide) rfl rfl rfl (leb rfl) (bz _) (fun _ => rfl) (ok_Model_week hv) ?_
  refine w_istore (q := 1064) (ls' := [some (.ref 2097152), some (.ref 0), some (.ref 54), some (.ref 78), some (.int i), some (.int v3.1), some (.int v6.1)]) d_Law_main_1062 rfl (by decide) rfl rfl ?_
  refine w_goto (q := 1473) d_Law_main_1064 rfl ?_
  cases h
  refine w_ls (ls' := [some (.ref 2097152), some (.ref 0), some (.ref 54), some (.ref 78), some (.int i), none, none]) (And.intro rfl (And.intro rfl (And.intro rfl (And.intro rfl (And.intro rfl trivial))))) ?_
  exact hr
def sp_case_26 (F L : Nat) (xs : Nat → Int32) (i : Int32) (g : Mem) : Option (Mem ⊕ Unit) := (rx L xs (i + 1)).bind fun v1 => (rx L xs (i + 2)).bind fun v2 => (sp_Law_oldest F v1 v2 g).bind fun v3 => (rx L xs (i + 1)).bind fun v4 => (rx L xs (i + 2)).bind fun v5 => (sp_Model_oldest F v4 v5 v3.2).bind fun v6 => some (.inl v6.2)
theorem ok_case_26 {γ : GG} {F : Nat} {i : Int32} {g : Mem} {b : Nat × Nat} {Φ : PO} {r : Mem ⊕ Unit} (h : sp_case_26 F (gS γ).2.1 (gS γ).2.2 i g = some r) (hr : RQ (fun g9 => WA γ M_Law_main 130 1473 (lwL i) [] SH g9 false b Φ) (fun _ => False) r) : WA γ M_Law_main 130 1067 (lwL i) [] SH g false (1 + b.1, 6 + b.2) Φ := by
  unfold sp_case_26 at h
  refine w_aload_n (q := 1068) d_Law_main_1067 rfl rfl ?_
  refine w_aload_n (q := 1069) d_Law_main_1068 rfl rfl ?_
  refine w_iload (q := 1071) d_Law_main_1069 rfl rfl ?_
  refine w_iconst (q := 1072) (v := 1) d_Law_main_1071 rfl (by decide) ?_
  refine w_iadd (q := 1073) d_Law_main_1072 rfl ?_
  obtain ⟨v1, hv, h⟩ := bnd h
  obtain ⟨hi, hv⟩ := rx_ok hv
  refine w_sld (q := 1074) d_Law_main_1073 rfl hi ?_
  rw [hv]
  refine w_aload_n (q := 1075) d_Law_main_1074 rfl rfl ?_
  refine w_iload (q := 1077) d_Law_main_1075 rfl rfl ?_
  refine w_iconst (q := 1078) (v := 2) d_Law_main_1077 rfl (by decide) ?_
  refine w_iadd (q := 1079) d_Law_main_1078 rfl ?_
  obtain ⟨v2, hv, h⟩ := bnd h
  obtain ⟨hi, hv⟩ := rx_ok hv
  refine w_sld (q := 1080) d_Law_main_1079 rfl hi ?_
  rw [hv]
  refine w_aload_n (q := 1081) d_Law_main_1080 rfl rfl ?_
  obtain ⟨v3, hv, h⟩ := bnd h
  refine w_callHi (q := 1084) (M' := M_Law_oldest) (n' := 5) (As := [.ref 0, .int v1, .int v2, .ref 78]) (sh' := SH) (b1 := (1, 6)) (b2 := b) d_Law_main_1081 rfl mw_Law_oldest (by decide) (by decide) ml_Law_204 rfl rfl (leb rfl) rfl (fun h9 => absurd h9 (by decide)) (ok_Law_oldest hv) ?_
  refine w_istore (q := 1086) (ls' := [some (.ref 2097152), some (.ref 0), some (.ref 54), some (.ref 78), some (.int i), some (.int v3.1), none]) d_Law_main_1084 rfl (by decide) rfl rfl ?_
  refine w_aload_n (q := 1087) d_Law_main_1086 rfl rfl ?_
  refine w_aload_n (q := 1088) d_Law_main_1087 rfl rfl ?_
  refine w_iload (q := 1090) d_Law_main_1088 rfl rfl ?_
  refine w_iconst (q := 1091) (v := 1) d_Law_main_1090 rfl (by decide) ?_
  refine w_iadd (q := 1092) d_Law_main_1091 rfl ?_
  obtain ⟨v4, hv, h⟩ := bnd h
  obtain ⟨hi, hv⟩ := rx_ok hv
  refine w_sld (q := 1093) d_Law_main_1092 rfl hi ?_
  rw [hv]
  refine w_aload_n (q := 1094) d_Law_main_1093 rfl rfl ?_
  refine w_iload (q := 1096) d_Law_main_1094 rfl rfl ?_
  refine w_iconst (q := 1097) (v := 2) d_Law_main_1096 rfl (by decide) ?_
  refine w_iadd (q := 1098) d_Law_main_1097 rfl ?_
  obtain ⟨v5, hv, h⟩ := bnd h
  obtain ⟨hi, hv⟩ := rx_ok hv
  refine w_sld (q := 1099) d_Law_main_1098 rfl hi ?_
  rw [hv]
  obtain ⟨v6, hv, h⟩ := bnd h
  refine w_callVi (q := 1102) (M' := M_Model_oldest) (n' := 3) (k := 54) (As := [.int v4, .int v5]) (sh' := SH) (b1 := (0, 0)) d_Law_main_1099 rfl mw_Model_oldest (by decide) (by decide) ml_Law_206 (by decide) s_54 (by decide) rfl rfl rfl (leb rfl) (bz _) (fun _ => rfl) (ok_Model_oldest hv) ?_
  refine w_istore (q := 1104) (ls' := [some (.ref 2097152), some (.ref 0), some (.ref 54), some (.ref 78), some (.int i), some (.int v3.1), some (.int v6.1)]) d_Law_main_1102 rfl (by decide) rfl rfl ?_
  refine w_goto (q := 1473) d_Law_main_1104 rfl ?_
  cases h
  refine w_ls (ls' := [some (.ref 2097152), some (.ref 0), some (.ref 54), some (.ref 78), some (.int i), none, none]) (And.intro rfl (And.intro rfl (And.intro rfl (And.intro rfl (And.intro rfl trivial))))) ?_
  exact hr
def sp_case_27 (F L : Nat) (xs : Nat → Int32) (i : Int32) (g : Mem) : Option (Mem ⊕ Unit) := (rx L xs (i + 1)).bind fun v1 => (sp_Law_believed F v1 g).bind fun v2 => (rx L xs (i + 1)).bind fun v3 => (sp_Model_believed F v3 v2.2).bind fun v4 => some (.inl v4.2)
theorem ok_case_27 {γ : GG} {F : Nat} {i : Int32} {g : Mem} {b : Nat × Nat} {Φ : PO} {r : Mem ⊕ Unit} (h : sp_case_27 F (gS γ).2.1 (gS γ).2.2 i g = some r) (hr : RQ (fun g9 => WA γ M_Law_main 130 1473 (lwL i) [] SH g9 false b Φ) (fun _ => False) r) : WA γ M_Law_main 130 1107 (lwL i) [] SH g false (1 + b.1, 6 + b.2) Φ := by
  unfold sp_case_27 at h
  refine w_aload_n (q := 1108) d_Law_main_1107 rfl rfl ?_
  refine w_aload_n (q := 1109) d_Law_main_1108 rfl rfl ?_
  refine w_iload (q := 1111) d_Law_main_1109 rfl rfl ?_
  refine w_iconst (q := 1112) (v := 1) d_Law_main_1111 rfl (by decide) ?_
  refine w_iadd (q := 1113) d_Law_main_1112 rfl ?_
  obtain ⟨v1, hv, h⟩ := bnd h
  obtain ⟨hi, hv⟩ := rx_ok hv
  refine w_sld (q := 1114) d_Law_main_1113 rfl hi ?_
  rw [hv]
  refine w_aload_n (q := 1115) d_Law_main_1114 rfl rfl ?_
  obtain ⟨v2, hv, h⟩ := bnd h
  refine w_callHi (q := 1118) (M' := M_Law_believed) (n' := 6) (As := [.ref 0, .int v1, .ref 78]) (sh' := SH) (b1 := (1, 6)) (b2 := b) d_Law_main_1115 rfl mw_Law_believed (by decide) (by decide) ml_Law_207 rfl rfl (leb rfl) rfl (fun h9 => absurd h9 (by decide)) (ok_Law_believed hv) ?_
  refine w_istore (q := 1120) (ls' := [some (.ref 2097152), some (.ref 0), some (.ref 54), some (.ref 78), some (.int i), some (.int v2.1), none]) d_Law_main_1118 rfl (by decide) rfl rfl ?_
  refine w_aload_n (q := 1121) d_Law_main_1120 rfl rfl ?_
  refine w_aload_n (q := 1122) d_Law_main_1121 rfl rfl ?_
  refine w_iload (q := 1124) d_Law_main_1122 rfl rfl ?_
  refine w_iconst (q := 1125) (v := 1) d_Law_main_1124 rfl (by decide) ?_
  refine w_iadd (q := 1126) d_Law_main_1125 rfl ?_
  obtain ⟨v3, hv, h⟩ := bnd h
  obtain ⟨hi, hv⟩ := rx_ok hv
  refine w_sld (q := 1127) d_Law_main_1126 rfl hi ?_
  rw [hv]
  obtain ⟨v4, hv, h⟩ := bnd h
  refine w_callVi (q := 1130) (M' := M_Model_believed) (n' := 4) (k := 54) (As := [.int v3]) (sh' := SH) (b1 := (0, 0)) d_Law_main_1127 rfl mw_Model_believed (by decide) (by decide) ml_Law_209 (by decide) s_54 (by decide) rfl rfl rfl (leb rfl) (bz _) (fun _ => rfl) (ok_Model_believed hv) ?_
  refine w_istore (q := 1132) (ls' := [some (.ref 2097152), some (.ref 0), some (.ref 54), some (.ref 78), some (.int i), some (.int v2.1), some (.int v4.1)]) d_Law_main_1130 rfl (by decide) rfl rfl ?_
  refine w_goto (q := 1473) d_Law_main_1132 rfl ?_
  cases h
  refine w_ls (ls' := [some (.ref 2097152), some (.ref 0), some (.ref 54), some (.ref 78), some (.int i), none, none]) (And.intro rfl (And.intro rfl (And.intro rfl (And.intro rfl (And.intro rfl trivial))))) ?_
  exact hr
def sp_case_28 (F L : Nat) (xs : Nat → Int32) (i : Int32) (g : Mem) : Option (Mem ⊕ Unit) := (rx L xs (i + 1)).bind fun v1 => (sp_Law_until v1 g).bind fun v2 => (rx L xs (i + 1)).bind fun v3 => (sp_Model_until v3 v2.2).bind fun v4 => some (.inl v4.2)
theorem ok_case_28 {γ : GG} {F : Nat} {i : Int32} {g : Mem} {b : Nat × Nat} {Φ : PO} {r : Mem ⊕ Unit} (h : sp_case_28 F (gS γ).2.1 (gS γ).2.2 i g = some r) (hr : RQ (fun g9 => WA γ M_Law_main 130 1473 (lwL i) [] SH g9 false b Φ) (fun _ => False) r) : WA γ M_Law_main 130 1135 (lwL i) [] SH g false (1 + b.1, 6 + b.2) Φ := by
  unfold sp_case_28 at h
  refine w_aload_n (q := 1136) d_Law_main_1135 rfl rfl ?_
  refine w_aload_n (q := 1137) d_Law_main_1136 rfl rfl ?_
  refine w_iload (q := 1139) d_Law_main_1137 rfl rfl ?_
  refine w_iconst (q := 1140) (v := 1) d_Law_main_1139 rfl (by decide) ?_
  refine w_iadd (q := 1141) d_Law_main_1140 rfl ?_
  obtain ⟨v1, hv, h⟩ := bnd h
  obtain ⟨hi, hv⟩ := rx_ok hv
  refine w_sld (q := 1142) d_Law_main_1141 rfl hi ?_
  rw [hv]
  refine w_aload_n (q := 1143) d_Law_main_1142 rfl rfl ?_
  obtain ⟨v2, hv, h⟩ := bnd h
  refine w_callHi (q := 1146) (M' := M_Law_until) (n' := 4) (As := [.ref 0, .int v1, .ref 78]) (sh' := SH) (b1 := (1, 6)) (b2 := b) d_Law_main_1143 rfl mw_Law_until (by decide) (by decide) ml_Law_210 rfl rfl (leb rfl) rfl (fun h9 => absurd h9 (by decide)) (ok_Law_until hv) ?_
  refine w_istore (q := 1148) (ls' := [some (.ref 2097152), some (.ref 0), some (.ref 54), some (.ref 78), some (.int i), some (.int v2.1), none]) d_Law_main_1146 rfl (by decide) rfl rfl ?_
  refine w_aload_n (q := 1149) d_Law_main_1148 rfl rfl ?_
  refine w_aload_n (q := 1150) d_Law_main_1149 rfl rfl ?_
  refine w_iload (q := 1152) d_Law_main_1150 rfl rfl ?_
  refine w_iconst (q := 1153) (v := 1) d_Law_main_1152 rfl (by decide) ?_
  refine w_iadd (q := 1154) d_Law_main_1153 rfl ?_
  obtain ⟨v3, hv, h⟩ := bnd h
  obtain ⟨hi, hv⟩ := rx_ok hv
  refine w_sld (q := 1155) d_Law_main_1154 rfl hi ?_
  rw [hv]
  obtain ⟨v4, hv, h⟩ := bnd h
  refine w_callVi (q := 1158) (M' := M_Model_until) (n' := 3) (k := 54) (As := [.int v3]) (sh' := SH) (b1 := (0, 0)) d_Law_main_1155 rfl mw_Model_until (by decide) (by decide) ml_Law_212 (by decide) s_54 (by decide) rfl rfl rfl (leb rfl) (bz _) (fun _ => rfl) (ok_Model_until hv) ?_
  refine w_istore (q := 1160) (ls' := [some (.ref 2097152), some (.ref 0), some (.ref 54), some (.ref 78), some (.int i), some (.int v2.1), some (.int v4.1)]) d_Law_main_1158 rfl (by decide) rfl rfl ?_
  refine w_goto (q := 1473) d_Law_main_1160 rfl ?_
  cases h
  refine w_ls (ls' := [some (.ref 2097152), some (.ref 0), some (.ref 54), some (.ref 78), some (.int i), none, none]) (And.intro rfl (And.intro rfl (And.intro rfl (And.intro rfl (And.intro rfl trivial))))) ?_
  exact hr
def sp_case_29 (F L : Nat) (xs : Nat → Int32) (i : Int32) (g : Mem) : Option (Mem ⊕ Unit) := (rx L xs (i + 1)).bind fun v1 => (sp_Law_doomed F v1 g).bind fun v2 => (rx L xs (i + 1)).bind fun v3 => (sp_Model_doomed F v3 v2.2).bind fun v4 => some (.inl v4.2)
theorem ok_case_29 {γ : GG} {F : Nat} {i : Int32} {g : Mem} {b : Nat × Nat} {Φ : PO} {r : Mem ⊕ Unit} (h : sp_case_29 F (gS γ).2.1 (gS γ).2.2 i g = some r) (hr : RQ (fun g9 => WA γ M_Law_main 130 1473 (lwL i) [] SH g9 false b Φ) (fun _ => False) r) : WA γ M_Law_main 130 1163 (lwL i) [] SH g false (1 + b.1, 6 + b.2) Φ := by
  unfold sp_case_29 at h
  refine w_aload_n (q := 1164) d_Law_main_1163 rfl rfl ?_
  refine w_aload_n (q := 1165) d_Law_main_1164 rfl rfl ?_
  refine w_iload (q := 1167) d_Law_main_1165 rfl rfl ?_
  refine w_iconst (q := 1168) (v := 1) d_Law_main_1167 rfl (by decide) ?_
  refine w_iadd (q := 1169) d_Law_main_1168 rfl ?_
  obtain ⟨v1, hv, h⟩ := bnd h
  obtain ⟨hi, hv⟩ := rx_ok hv
  refine w_sld (q := 1170) d_Law_main_1169 rfl hi ?_
  rw [hv]
  refine w_aload_n (q := 1171) d_Law_main_1170 rfl rfl ?_
  obtain ⟨v2, hv, h⟩ := bnd h
  refine w_callHi (q := 1174) (M' := M_Law_doomed) (n' := 5) (As := [.ref 0, .int v1, .ref 78]) (sh' := SH) (b1 := (1, 6)) (b2 := b) d_Law_main_1171 rfl mw_Law_doomed (by decide) (by decide) ml_Law_213 rfl rfl (leb rfl) rfl (fun h9 => absurd h9 (by decide)) (ok_Law_doomed hv) ?_
  refine w_istore (q := 1176) (ls' := [some (.ref 2097152), some (.ref 0), some (.ref 54), some (.ref 78), some (.int i), some (.int v2.1), none]) d_Law_main_1174 rfl (by decide) rfl rfl ?_
  refine w_aload_n (q := 1177) d_Law_main_1176 rfl rfl ?_
  refine w_aload_n (q := 1178) d_Law_main_1177 rfl rfl ?_
  refine w_iload (q := 1180) d_Law_main_1178 rfl rfl ?_
  refine w_iconst (q := 1181) (v := 1) d_Law_main_1180 rfl (by decide) ?_
  refine w_iadd (q := 1182) d_Law_main_1181 rfl ?_
  obtain ⟨v3, hv, h⟩ := bnd h
  obtain ⟨hi, hv⟩ := rx_ok hv
  refine w_sld (q := 1183) d_Law_main_1182 rfl hi ?_
  rw [hv]
  obtain ⟨v4, hv, h⟩ := bnd h
  refine w_callVi (q := 1186) (M' := M_Model_doomed) (n' := 5) (k := 54) (As := [.int v3]) (sh' := SH) (b1 := (0, 0)) d_Law_main_1183 rfl mw_Model_doomed (by decide) (by decide) ml_Law_215 (by decide) s_54 (by decide) rfl rfl rfl (leb rfl) (bz _) (fun _ => rfl) (ok_Model_doomed hv) ?_
  refine w_istore (q := 1188) (ls' := [some (.ref 2097152), some (.ref 0), some (.ref 54), some (.ref 78), some (.int i), some (.int v2.1), some (.int v4.1)]) d_Law_main_1186 rfl (by decide) rfl rfl ?_
  refine w_goto (q := 1473) d_Law_main_1188 rfl ?_
  cases h
  refine w_ls (ls' := [some (.ref 2097152), some (.ref 0), some (.ref 54), some (.ref 78), some (.int i), none, none]) (And.intro rfl (And.intro rfl (And.intro rfl (And.intro rfl (And.intro rfl trivial))))) ?_
  exact hr
def sp_case_30 (F L : Nat) (xs : Nat → Int32) (i : Int32) (g : Mem) : Option (Mem ⊕ Unit) := (sp_Hall_safest F g).bind fun v1 => (sp_Model_safest F g).bind fun v2 => some (.inl v2.2)
theorem ok_case_30 {γ : GG} {F : Nat} {i : Int32} {g : Mem} {b : Nat × Nat} {Φ : PO} {r : Mem ⊕ Unit} (h : sp_case_30 F (gS γ).2.1 (gS γ).2.2 i g = some r) (hr : RQ (fun g9 => WA γ M_Law_main 130 1473 (lwL i) [] SH g9 false b Φ) (fun _ => False) r) : WA γ M_Law_main 130 1191 (lwL i) [] SH g false (1 + b.1, 6 + b.2) Φ := by
  unfold sp_case_30 at h
  refine w_aload_n (q := 1192) d_Law_main_1191 rfl rfl ?_
  obtain ⟨v1, hv, h⟩ := bnd h
  refine w_callVi (q := 1195) (M' := M_Hall_safest) (n' := 3) (k := 0) (As := []) (sh' := SH) (b1 := (0, 0)) d_Law_main_1192 rfl mw_Hall_safest (by decide) (by decide) ml_Law_216 (by decide) s_0 (by decide) rfl rfl rfl (leb rfl) (bz _) (fun _ => rfl) (ok_Hall_safest hv) ?_
  refine w_pop (q := 1196) d_Law_main_1195 rfl rfl ?_
  refine w_aload_n (q := 1197) d_Law_main_1196 rfl rfl ?_
  obtain ⟨v2, hv, h⟩ := bnd h
  refine w_callVi (q := 1200) (M' := M_Model_safest) (n' := 2) (k := 54) (As := []) (sh' := SH) (b1 := (0, 0)) d_Law_main_1197 rfl mw_Model_safest (by decide) (by decide) ml_Law_219 (by decide) s_54 (by decide) rfl rfl rfl (leb rfl) (bz _) (fun _ => rfl) (ok_Model_safest hv) ?_
  refine w_pop (q := 1201) d_Law_main_1200 rfl rfl ?_
  refine w_goto (q := 1473) d_Law_main_1201 rfl ?_
  cases h
  refine w_ls (ls' := [some (.ref 2097152), some (.ref 0), some (.ref 54), some (.ref 78), some (.int i), none, none]) (And.intro rfl (And.intro rfl (And.intro rfl (And.intro rfl (And.intro rfl trivial))))) ?_
  exact w_wide (Nat.le_add_left _ _) (Nat.le_add_left _ _) hr
def sp_case_31 (F L : Nat) (xs : Nat → Int32) (i : Int32) (g : Mem) : Option (Mem ⊕ Unit) := (rx L xs (i + 1)).bind fun v1 => (sp_Law_heir F v1 g).bind fun v2 => (rx L xs (i + 1)).bind fun v3 => (sp_Model_heir F v3 v2.2).bind fun v4 => some (.inl v4.2)
theorem ok_case_31 {γ : GG} {F : Nat} {i : Int32} {g : Mem} {b : Nat × Nat} {Φ : PO} {r : Mem ⊕ Unit} (h : sp_case_31 F (gS γ).2.1 (gS γ).2.2 i g = some r) (hr : RQ (fun g9 => WA γ M_Law_main 130 1473 (lwL i) [] SH g9 false b Φ) (fun _ => False) r) : WA γ M_Law_main 130 1204 (lwL i) [] SH g false (1 + b.1, 6 + b.2) Φ := by
  unfold sp_case_31 at h
  refine w_aload_n (q := 1205) d_Law_main_1204 rfl rfl ?_
  refine w_aload_n (q := 1206) d_Law_main_1205 rfl rfl ?_
  refine w_iload (q := 1208) d_Law_main_1206 rfl rfl ?_
  refine w_iconst (q := 1209) (v := 1) d_Law_main_1208 rfl (by decide) ?_
  refine w_iadd (q := 1210) d_Law_main_1209 rfl ?_
  obtain ⟨v1, hv, h⟩ := bnd h
  obtain ⟨hi, hv⟩ := rx_ok hv
  refine w_sld (q := 1211) d_Law_main_1210 rfl hi ?_
  rw [hv]
  refine w_aload_n (q := 1212) d_Law_main_1211 rfl rfl ?_
  obtain ⟨v2, hv, h⟩ := bnd h
  refine w_callHi (q := 1215) (M' := M_Law_heir) (n' := 5) (As := [.ref 0, .int v1, .ref 78]) (sh' := SH) (b1 := (1, 6)) (b2 := b) d_Law_main_1212 rfl mw_Law_heir (by decide) (by decide) ml_Law_220 rfl rfl (leb rfl) rfl (fun h9 => absurd h9 (by decide)) (ok_Law_heir hv) ?_
  refine w_istore (q := 1217) (ls' := [some (.ref 2097152), some (.ref 0), some (.ref 54), some (.ref 78), some (.int i), some (.int v2.1), none]) d_Law_main_1215 rfl (by decide) rfl rfl ?_
  refine w_aload_n (q := 1218) d_Law_main_1217 rfl rfl ?_
  refine w_aload_n (q := 1219) d_Law_main_1218 rfl rfl ?_
  refine w_iload (q := 1221) d_Law_main_1219 rfl rfl ?_
  refine w_iconst (q := 1222) (v := 1) d_Law_main_1221 rfl (by decide) ?_
  refine w_iadd (q := 1223) d_Law_main_1222 rfl ?_
  obtain ⟨v3, hv, h⟩ := bnd h
  obtain ⟨hi, hv⟩ := rx_ok hv
  refine w_sld (q := 1224) d_Law_main_1223 rfl hi ?_
  rw [hv]
  obtain ⟨v4, hv, h⟩ := bnd h
  refine w_callVi (q := 1227) (M' := M_Model_heir) (n' := 3) (k := 54) (As := [.int v3]) (sh' := SH) (b1 := (0, 0)) d_Law_main_1224 rfl mw_Model_heir (by decide) (by decide) ml_Law_222 (by decide) s_54 (by decide) rfl rfl rfl (leb rfl) (bz _) (fun _ => rfl) (ok_Model_heir hv) ?_
  refine w_istore (q := 1229) (ls' := [some (.ref 2097152), some (.ref 0), some (.ref 54), some (.ref 78), some (.int i), some (.int v2.1), some (.int v4.1)]) d_Law_main_1227 rfl (by decide) rfl rfl ?_
  refine w_goto (q := 1473) d_Law_main_1229 rfl ?_
  cases h
  refine w_ls (ls' := [some (.ref 2097152), some (.ref 0), some (.ref 54), some (.ref 78), some (.int i), none, none]) (And.intro rfl (And.intro rfl (And.intro rfl (And.intro rfl (And.intro rfl trivial))))) ?_
  exact hr
def sp_case_32 (F L : Nat) (xs : Nat → Int32) (i : Int32) (g : Mem) : Option (Mem ⊕ Unit) := (rx L xs (i + 1)).bind fun v1 => (sp_Law_lice F v1 g).bind fun v2 => (rx L xs (i + 1)).bind fun v3 => (sp_Model_lice F v3 v2.2).bind fun v4 => some (.inl v4.2)
theorem ok_case_32 {γ : GG} {F : Nat} {i : Int32} {g : Mem} {b : Nat × Nat} {Φ : PO} {r : Mem ⊕ Unit} (h : sp_case_32 F (gS γ).2.1 (gS γ).2.2 i g = some r) (hr : RQ (fun g9 => WA γ M_Law_main 130 1473 (lwL i) [] SH g9 false b Φ) (fun _ => False) r) : WA γ M_Law_main 130 1232 (lwL i) [] SH g false (1 + b.1, 6 + b.2) Φ := by
  unfold sp_case_32 at h
  refine w_aload_n (q := 1233) d_Law_main_1232 rfl rfl ?_
  refine w_aload_n (q := 1234) d_Law_main_1233 rfl rfl ?_
  refine w_iload (q := 1236) d_Law_main_1234 rfl rfl ?_
  refine w_iconst (q := 1237) (v := 1) d_Law_main_1236 rfl (by decide) ?_
  refine w_iadd (q := 1238) d_Law_main_1237 rfl ?_
  obtain ⟨v1, hv, h⟩ := bnd h
  obtain ⟨hi, hv⟩ := rx_ok hv
  refine w_sld (q := 1239) d_Law_main_1238 rfl hi ?_
  rw [hv]
  refine w_aload_n (q := 1240) d_Law_main_1239 rfl rfl ?_
  obtain ⟨v2, hv, h⟩ := bnd h
  refine w_callHi (q := 1243) (M' := M_Law_lice) (n' := 4) (As := [.ref 0, .int v1, .ref 78]) (sh' := SH) (b1 := (1, 6)) (b2 := b) d_Law_main_1240 rfl mw_Law_lice (by decide) (by decide) ml_Law_223 rfl rfl (leb rfl) rfl (fun h9 => absurd h9 (by decide)) (ok_Law_lice hv) ?_
  refine w_istore (q := 1245) (ls' := [some (.ref 2097152), some (.ref 0), some (.ref 54), some (.ref 78), some (.int i), some (.int v2.1), none]) d_Law_main_1243 rfl (by decide) rfl rfl ?_
  refine w_aload_n (q := 1246) d_Law_main_1245 rfl rfl ?_
  refine w_aload_n (q := 1247) d_Law_main_1246 rfl rfl ?_
  refine w_iload (q := 1249) d_Law_main_1247 rfl rfl ?_
  refine w_iconst (q := 1250) (v := 1) d_Law_main_1249 rfl (by decide) ?_
  refine w_iadd (q := 1251) d_Law_main_1250 rfl ?_
  obtain ⟨v3, hv, h⟩ := bnd h
  obtain ⟨hi, hv⟩ := rx_ok hv
  refine w_sld (q := 1252) d_Law_main_1251 rfl hi ?_
  rw [hv]
  obtain ⟨v4, hv, h⟩ := bnd h
  refine w_callVi (q := 1255) (M' := M_Model_lice) (n' := 3) (k := 54) (As := [.int v3]) (sh' := SH) (b1 := (0, 0)) d_Law_main_1252 rfl mw_Model_lice (by decide) (by decide) ml_Law_225 (by decide) s_54 (by decide) rfl rfl rfl (leb rfl) (bz _) (fun _ => rfl) (ok_Model_lice hv) ?_
  refine w_istore (q := 1257) (ls' := [some (.ref 2097152), some (.ref 0), some (.ref 54), some (.ref 78), some (.int i), some (.int v2.1), some (.int v4.1)]) d_Law_main_1255 rfl (by decide) rfl rfl ?_
  refine w_goto (q := 1473) d_Law_main_1257 rfl ?_
  cases h
  refine w_ls (ls' := [some (.ref 2097152), some (.ref 0), some (.ref 54), some (.ref 78), some (.int i), none, none]) (And.intro rfl (And.intro rfl (And.intro rfl (And.intro rfl (And.intro rfl trivial))))) ?_
  exact hr
def sp_case_33 (F L : Nat) (xs : Nat → Int32) (i : Int32) (g : Mem) : Option (Mem ⊕ Unit) := (rx L xs (i + 1)).bind fun v1 => (rx L xs (i + 2)).bind fun v2 => if v2 = 0 then (sp_Law_see v1 0 g).bind fun v4 => (rx L xs (i + 1)).bind fun v5 => (rx L xs (i + 2)).bind fun v6 => if v6 = 0 then (sp_Model_see v5 0 v4.2).bind fun v8 => some (.inl v8.2) else (sp_Model_see v5 1 v4.2).bind fun v9 => some (.inl v9.2) else (sp_Law_see v1 1 g).bind fun v10 => (rx L xs (i + 1)).bind fun v11 => (rx L xs (i + 2)).bind fun v12 => if v12 = 0 then (sp_Model_see v11 0 v10.2).bind fun v14 => some (.inl v14.2) else (sp_Model_see v11 1 v10.2).bind fun v15 => some (.inl v15.2)
theorem ok_case_33 {γ : GG} {F : Nat} {i : Int32} {g : Mem} {b : Nat × Nat} {Φ : PO} {r : Mem ⊕ Unit} (h : sp_case_33 F (gS γ).2.1 (gS γ).2.2 i g = some r) (hr : RQ (fun g9 => WA γ M_Law_main 130 1473 (lwL i) [] SH g9 false b Φ) (fun _ => False) r) : WA γ M_Law_main 130 1260 (lwL i) [] SH g false (1 + b.1, 6 + b.2) Φ := by
  unfold sp_case_33 at h
  refine w_aload_n (q := 1261) d_Law_main_1260 rfl rfl ?_
  refine w_aload_n (q := 1262) d_Law_main_1261 rfl rfl ?_
  refine w_iload (q := 1264) d_Law_main_1262 rfl rfl ?_
  refine w_iconst (q := 1265) (v := 1) d_Law_main_1264 rfl (by decide) ?_
  refine w_iadd (q := 1266) d_Law_main_1265 rfl ?_
  obtain ⟨v1, hv, h⟩ := bnd h
  obtain ⟨hi, hv⟩ := rx_ok hv
  refine w_sld (q := 1267) d_Law_main_1266 rfl hi ?_
  rw [hv]
  refine w_aload_n (q := 1268) d_Law_main_1267 rfl rfl ?_
  refine w_iload (q := 1270) d_Law_main_1268 rfl rfl ?_
  refine w_iconst (q := 1271) (v := 2) d_Law_main_1270 rfl (by decide) ?_
  refine w_iadd (q := 1272) d_Law_main_1271 rfl ?_
  obtain ⟨v2, hv, h⟩ := bnd h
  obtain ⟨hi, hv⟩ := rx_ok hv
  refine w_sld (q := 1273) d_Law_main_1272 rfl hi ?_
  rw [hv]
  by_cases c3 : v2 = 0
  · rw [if_pos c3] at h
    refine w_if_eq_t (q := 1280) d_Law_main_1273 rfl c3 ?_
    refine w_iconst (q := 1281) (v := 0) d_Law_main_1280 rfl (by decide) ?_
    refine w_aload_n (q := 1282) d_Law_main_1281 rfl rfl ?_
    obtain ⟨v4, hv, h⟩ := bnd h
    refine w_callHi (q := 1285) (M' := M_Law_see) (n' := 2) (As := [.ref 0, .int v1, .int 0, .ref 78]) (sh' := SH) (b1 := (1, 6)) (b2 := b) d_Law_main_1282 rfl mw_Law_see (by decide) (by decide) ml_Law_226 rfl rfl (leb rfl) rfl (fun h9 => absurd h9 (by decide)) (ok_Law_see hv) ?_
    refine w_istore (q := 1287) (ls' := [some (.ref 2097152), some (.ref 0), some (.ref 54), some (.ref 78), some (.int i), some (.int v4.1), none]) d_Law_main_1285 rfl (by decide) rfl rfl ?_
    refine w_aload_n (q := 1288) d_Law_main_1287 rfl rfl ?_
    refine w_aload_n (q := 1289) d_Law_main_1288 rfl rfl ?_
    refine w_iload (q := 1291) d_Law_main_1289 rfl rfl ?_
    refine w_iconst (q := 1292) (v := 1) d_Law_main_1291 rfl (by decide) ?_
    refine w_iadd (q := 1293) d_Law_main_1292 rfl ?_
    obtain ⟨v5, hv, h⟩ := bnd h
    obtain ⟨hi, hv⟩ := rx_ok hv
    refine w_sld (q := 1294) d_Law_main_1293 rfl hi ?_
    rw [hv]
    refine w_aload_n (q := 1295) d_Law_main_1294 rfl rfl ?_
    refine w_iload (q := 1297) d_Law_main_1295 rfl rfl ?_
    refine w_iconst (q := 1298) (v := 2) d_Law_main_1297 rfl (by decide) ?_
    refine w_iadd (q := 1299) d_Law_main_1298 rfl ?_
    obtain ⟨v6, hv, h⟩ := bnd h
    obtain ⟨hi, hv⟩ := rx_ok hv
    refine w_sld (q := 1300) d_Law_main_1299 rfl hi ?_
    rw [hv]
    by_cases c7 : v6 = 0
    · rw [if_pos c7] at h
      refine w_if_eq_t (q := 1307) d_Law_main_1300 rfl c7 ?_
      refine w_iconst (q := 1308) (v := 0) d_Law_main_1307 rfl (by decide) ?_
      obtain ⟨v8, hv, h⟩ := bnd h
      refine w_callVi (q := 1311) (M' := M_Model_see) (n' := 2) (k := 54) (As := [.int v5, .int 0]) (sh' := SH) (b1 := (0, 0)) d_Law_main_1308 rfl mw_Model_see (by decide) (by decide) ml_Law_229 (by decide) s_54 (by decide) rfl rfl rfl (leb rfl) (bz _) (fun _ => rfl) (ok_Model_see hv) ?_
      refine w_istore (q := 1313) (ls' := [some (.ref 2097152), some (.ref 0), some (.ref 54), some (.ref 78), some (.int i), some (.int v4.1), some (.int v8.1)]) d_Law_main_1311 rfl (by decide) rfl rfl ?_
      refine w_goto (q := 1473) d_Law_main_1313 rfl ?_
      cases h
      refine w_ls (ls' := [some (.ref 2097152), some (.ref 0), some (.ref 54), some (.ref 78), some (.int i), none, none]) (And.intro rfl (And.intro rfl (And.intro rfl (And.intro rfl (And.intro rfl trivial))))) ?_
      exact hr
    · rw [if_neg c7] at h
      refine w_if_eq_f (q := 1303) d_Law_main_1300 1307 rfl rfl c7 ?_
      refine w_iconst (q := 1304) (v := 1) d_Law_main_1303 rfl (by decide) ?_
      refine w_goto (q := 1308) d_Law_main_1304 rfl ?_
      obtain ⟨v9, hv, h⟩ := bnd h
      refine w_callVi (q := 1311) (M' := M_Model_see) (n' := 2) (k := 54) (As := [.int v5, .int 1]) (sh' := SH) (b1 := (0, 0)) d_Law_main_1308 rfl mw_Model_see (by decide) (by decide) ml_Law_229 (by decide) s_54 (by decide) rfl rfl rfl (leb rfl) (bz _) (fun _ => rfl) (ok_Model_see hv) ?_
      refine w_istore (q := 1313) (ls' := [some (.ref 2097152), some (.ref 0), some (.ref 54), some (.ref 78), some (.int i), some (.int v4.1), some (.int v9.1)]) d_Law_main_1311 rfl (by decide) rfl rfl ?_
      refine w_goto (q := 1473) d_Law_main_1313 rfl ?_
      cases h
      refine w_ls (ls' := [some (.ref 2097152), some (.ref 0), some (.ref 54), some (.ref 78), some (.int i), none, none]) (And.intro rfl (And.intro rfl (And.intro rfl (And.intro rfl (And.intro rfl trivial))))) ?_
      exact hr
  · rw [if_neg c3] at h
    refine w_if_eq_f (q := 1276) d_Law_main_1273 1280 rfl rfl c3 ?_
    refine w_iconst (q := 1277) (v := 1) d_Law_main_1276 rfl (by decide) ?_
    refine w_goto (q := 1281) d_Law_main_1277 rfl ?_
    refine w_aload_n (q := 1282) d_Law_main_1281 rfl rfl ?_
    obtain ⟨v10, hv, h⟩ := bnd h
    refine w_callHi (q := 1285) (M' := M_Law_see) (n' := 2) (As := [.ref 0, .int v1, .int 1, .ref 78]) (sh' := SH) (b1 := (1, 6)) (b2 := b) d_Law_main_1282 rfl mw_Law_see (by decide) (by decide) ml_Law_226 rfl rfl (leb rfl) rfl (fun h9 => absurd h9 (by decide)) (ok_Law_see hv) ?_
    refine w_istore (q := 1287) (ls' := [some (.ref 2097152), some (.ref 0), some (.ref 54), some (.ref 78), some (.int i), some (.int v10.1), none]) d_Law_main_1285 rfl (by decide) rfl rfl ?_
    refine w_aload_n (q := 1288) d_Law_main_1287 rfl rfl ?_
    refine w_aload_n (q := 1289) d_Law_main_1288 rfl rfl ?_
    refine w_iload (q := 1291) d_Law_main_1289 rfl rfl ?_
    refine w_iconst (q := 1292) (v := 1) d_Law_main_1291 rfl (by decide) ?_
    refine w_iadd (q := 1293) d_Law_main_1292 rfl ?_
    obtain ⟨v11, hv, h⟩ := bnd h
    obtain ⟨hi, hv⟩ := rx_ok hv
    refine w_sld (q := 1294) d_Law_main_1293 rfl hi ?_
    rw [hv]
    refine w_aload_n (q := 1295) d_Law_main_1294 rfl rfl ?_
    refine w_iload (q := 1297) d_Law_main_1295 rfl rfl ?_
    refine w_iconst (q := 1298) (v := 2) d_Law_main_1297 rfl (by decide) ?_
    refine w_iadd (q := 1299) d_Law_main_1298 rfl ?_
    obtain ⟨v12, hv, h⟩ := bnd h
    obtain ⟨hi, hv⟩ := rx_ok hv
    refine w_sld (q := 1300) d_Law_main_1299 rfl hi ?_
    rw [hv]
    by_cases c13 : v12 = 0
    · rw [if_pos c13] at h
      refine w_if_eq_t (q := 1307) d_Law_main_1300 rfl c13 ?_
      refine w_iconst (q := 1308) (v := 0) d_Law_main_1307 rfl (by decide) ?_
      obtain ⟨v14, hv, h⟩ := bnd h
      refine w_callVi (q := 1311) (M' := M_Model_see) (n' := 2) (k := 54) (As := [.int v11, .int 0]) (sh' := SH) (b1 := (0, 0)) d_Law_main_1308 rfl mw_Model_see (by decide) (by decide) ml_Law_229 (by decide) s_54 (by decide) rfl rfl rfl (leb rfl) (bz _) (fun _ => rfl) (ok_Model_see hv) ?_
      refine w_istore (q := 1313) (ls' := [some (.ref 2097152), some (.ref 0), some (.ref 54), some (.ref 78), some (.int i), some (.int v10.1), some (.int v14.1)]) d_Law_main_1311 rfl (by decide) rfl rfl ?_
      refine w_goto (q := 1473) d_Law_main_1313 rfl ?_
      cases h
      refine w_ls (ls' := [some (.ref 2097152), some (.ref 0), some (.ref 54), some (.ref 78), some (.int i), none, none]) (And.intro rfl (And.intro rfl (And.intro rfl (And.intro rfl (And.intro rfl trivial))))) ?_
      exact hr
    · rw [if_neg c13] at h
      refine w_if_eq_f (q := 1303) d_Law_main_1300 1307 rfl rfl c13 ?_
      refine w_iconst (q := 1304) (v := 1) d_Law_main_1303 rfl (by decide) ?_
      refine w_goto (q := 1308) d_Law_main_1304 rfl ?_
      obtain ⟨v15, hv, h⟩ := bnd h
      refine w_callVi (q := 1311) (M' := M_Model_see) (n' := 2) (k := 54) (As := [.int v11, .int 1]) (sh' := SH) (b1 := (0, 0)) d_Law_main_1308 rfl mw_Model_see (by decide) (by decide) ml_Law_229 (by decide) s_54 (by decide) rfl rfl rfl (leb rfl) (bz _) (fun _ => rfl) (ok_Model_see hv) ?_
      refine w_istore (q := 1313) (ls' := [some (.ref 2097152), some (.ref 0), some (.ref 54), some (.ref 78), some (.int i), some (.int v10.1), some (.int v15.1)]) d_Law_main_1311 rfl (by decide) rfl rfl ?_
      refine w_goto (q := 1473) d_Law_main_1313 rfl ?_
      cases h
      refine w_ls (ls' := [some (.ref 2097152), some (.ref 0), some (.ref 54), some (.ref 78), some (.int i), none, none]) (And.intro rfl (And.intro rfl (And.intro rfl (And.intro rfl (And.intro rfl trivial))))) ?_
      exact hr
def sp_case_34 (F L : Nat) (xs : Nat → Int32) (i : Int32) (g : Mem) : Option (Mem ⊕ Unit) := (rx L xs (i + 1)).bind fun v1 => (rx L xs (i + 2)).bind fun v2 => (sp_Law_ate F v1 v2 g).bind fun v3 => (rx L xs (i + 1)).bind fun v4 => (rx L xs (i + 2)).bind fun v5 => (sp_Model_ate F v4 v5 v3.2).bind fun v6 => some (.inl v6.2)
theorem ok_case_34 {γ : GG} {F : Nat} {i : Int32} {g : Mem} {b : Nat × Nat} {Φ : PO} {r : Mem ⊕ Unit} (h : sp_case_34 F (gS γ).2.1 (gS γ).2.2 i g = some r) (hr : RQ (fun g9 => WA γ M_Law_main 130 1473 (lwL i) [] SH g9 false b Φ) (fun _ => False) r) : WA γ M_Law_main 130 1316 (lwL i) [] SH g false (1 + b.1, 6 + b.2) Φ := by
  unfold sp_case_34 at h
  refine w_aload_n (q := 1317) d_Law_main_1316 rfl rfl ?_
  refine w_aload_n (q := 1318) d_Law_main_1317 rfl rfl ?_
  refine w_iload (q := 1320) d_Law_main_1318 rfl rfl ?_
  refine w_iconst (q := 1321) (v := 1) d_Law_main_1320 rfl (by decide) ?_
  refine w_iadd (q := 1322) d_Law_main_1321 rfl ?_
  obtain ⟨v1, hv, h⟩ := bnd h
  obtain ⟨hi, hv⟩ := rx_ok hv
  refine w_sld (q := 1323) d_Law_main_1322 rfl hi ?_
  rw [hv]
  refine w_aload_n (q := 1324) d_Law_main_1323 rfl rfl ?_
  refine w_iload (q := 1326) d_Law_main_1324 rfl rfl ?_
  refine w_iconst (q := 1327) (v := 2) d_Law_main_1326 rfl (by decide) ?_
  refine w_iadd (q := 1328) d_Law_main_1327 rfl ?_
  obtain ⟨v2, hv, h⟩ := bnd h
  obtain ⟨hi, hv⟩ := rx_ok hv
  refine w_sld (q := 1329) d_Law_main_1328 rfl hi ?_
  rw [hv]
  refine w_aload_n (q := 1330) d_Law_main_1329 rfl rfl ?_
  obtain ⟨v3, hv, h⟩ := bnd h
  refine w_callHi (q := 1333) (M' := M_Law_ate) (n' := 6) (As := [.ref 0, .int v1, .int v2, .ref 78]) (sh' := SH) (b1 := (1, 6)) (b2 := b) d_Law_main_1330 rfl mw_Law_ate (by decide) (by decide) ml_Law_230 rfl rfl (leb rfl) rfl (fun h9 => absurd h9 (by decide)) (ok_Law_ate hv) ?_
  refine w_istore (q := 1335) (ls' := [some (.ref 2097152), some (.ref 0), some (.ref 54), some (.ref 78), some (.int i), some (.int v3.1), none]) d_Law_main_1333 rfl (by decide) rfl rfl ?_
  refine w_aload_n (q := 1336) d_Law_main_1335 rfl rfl ?_
  refine w_aload_n (q := 1337) d_Law_main_1336 rfl rfl ?_
  refine w_iload (q := 1339) d_Law_main_1337 rfl rfl ?_
  refine w_iconst (q := 1340) (v := 1) d_Law_main_1339 rfl (by decide) ?_
  refine w_iadd (q := 1341) d_Law_main_1340 rfl ?_
  obtain ⟨v4, hv, h⟩ := bnd h
  obtain ⟨hi, hv⟩ := rx_ok hv
  refine w_sld (q := 1342) d_Law_main_1341 rfl hi ?_
  rw [hv]
  refine w_aload_n (q := 1343) d_Law_main_1342 rfl rfl ?_
  refine w_iload (q := 1345) d_Law_main_1343 rfl rfl ?_
  refine w_iconst (q := 1346) (v := 2) d_Law_main_1345 rfl (by decide) ?_
  refine w_iadd (q := 1347) d_Law_main_1346 rfl ?_
  obtain ⟨v5, hv, h⟩ := bnd h
  obtain ⟨hi, hv⟩ := rx_ok hv
  refine w_sld (q := 1348) d_Law_main_1347 rfl hi ?_
  rw [hv]
  obtain ⟨v6, hv, h⟩ := bnd h
  refine w_callVi (q := 1351) (M' := M_Model_ate) (n' := 4) (k := 54) (As := [.int v4, .int v5]) (sh' := SH) (b1 := (0, 0)) d_Law_main_1348 rfl mw_Model_ate (by decide) (by decide) ml_Law_232 (by decide) s_54 (by decide) rfl rfl rfl (leb rfl) (bz _) (fun _ => rfl) (ok_Model_ate hv) ?_
  refine w_istore (q := 1353) (ls' := [some (.ref 2097152), some (.ref 0), some (.ref 54), some (.ref 78), some (.int i), some (.int v3.1), some (.int v6.1)]) d_Law_main_1351 rfl (by decide) rfl rfl ?_
  refine w_goto (q := 1473) d_Law_main_1353 rfl ?_
  cases h
  refine w_ls (ls' := [some (.ref 2097152), some (.ref 0), some (.ref 54), some (.ref 78), some (.int i), none, none]) (And.intro rfl (And.intro rfl (And.intro rfl (And.intro rfl (And.intro rfl trivial))))) ?_
  exact hr
def sp_case_35 (F L : Nat) (xs : Nat → Int32) (i : Int32) (g : Mem) : Option (Mem ⊕ Unit) := (sp_Hall_forget g).bind fun v1 => (sp_Model_forget v1.2).bind fun v2 => some (.inl v2.2)
theorem ok_case_35 {γ : GG} {F : Nat} {i : Int32} {g : Mem} {b : Nat × Nat} {Φ : PO} {r : Mem ⊕ Unit} (h : sp_case_35 F (gS γ).2.1 (gS γ).2.2 i g = some r) (hr : RQ (fun g9 => WA γ M_Law_main 130 1473 (lwL i) [] SH g9 false b Φ) (fun _ => False) r) : WA γ M_Law_main 130 1356 (lwL i) [] SH g false (1 + b.1, 6 + b.2) Φ := by
  unfold sp_case_35 at h
  refine w_aload_n (q := 1357) d_Law_main_1356 rfl rfl ?_
  obtain ⟨v1, hv, h⟩ := bnd h
  refine w_callVi (q := 1360) (M' := M_Hall_forget) (n' := 0) (k := 0) (As := []) (sh' := SH) (b1 := (0, 0)) d_Law_main_1357 rfl mw_Hall_forget (by decide) (by decide) ml_Law_233 (by decide) s_0 (by decide) rfl rfl rfl (leb rfl) (bz _) (fun _ => rfl) (ok_Hall_forget hv) ?_
  refine w_pop (q := 1361) d_Law_main_1360 rfl rfl ?_
  refine w_aload_n (q := 1362) d_Law_main_1361 rfl rfl ?_
  obtain ⟨v2, hv, h⟩ := bnd h
  refine w_callVi (q := 1365) (M' := M_Model_forget) (n' := 0) (k := 54) (As := []) (sh' := SH) (b1 := (0, 0)) d_Law_main_1362 rfl mw_Model_forget (by decide) (by decide) ml_Law_236 (by decide) s_54 (by decide) rfl rfl rfl (leb rfl) (bz _) (fun _ => rfl) (ok_Model_forget hv) ?_
  refine w_pop (q := 1366) d_Law_main_1365 rfl rfl ?_
  refine w_goto (q := 1473) d_Law_main_1366 rfl ?_
  cases h
  refine w_ls (ls' := [some (.ref 2097152), some (.ref 0), some (.ref 54), some (.ref 78), some (.int i), none, none]) (And.intro rfl (And.intro rfl (And.intro rfl (And.intro rfl (And.intro rfl trivial))))) ?_
  exact w_wide (Nat.le_add_left _ _) (Nat.le_add_left _ _) hr
def sp_case_36 (F L : Nat) (xs : Nat → Int32) (i : Int32) (g : Mem) : Option (Mem ⊕ Unit) := (rx L xs (i + 1)).bind fun v1 => (sp_Law_game F v1 g).bind fun v2 => (rx L xs (i + 1)).bind fun v3 => (sp_Model_game F v3 v2.2).bind fun v4 => some (.inl v4.2)
theorem ok_case_36 {γ : GG} {F : Nat} {i : Int32} {g : Mem} {b : Nat × Nat} {Φ : PO} {r : Mem ⊕ Unit} (h : sp_case_36 F (gS γ).2.1 (gS γ).2.2 i g = some r) (hr : RQ (fun g9 => WA γ M_Law_main 130 1473 (lwL i) [] SH g9 false b Φ) (fun _ => False) r) : WA γ M_Law_main 130 1369 (lwL i) [] SH g false (1 + b.1, 6 + b.2) Φ := by
  unfold sp_case_36 at h
  refine w_aload_n (q := 1370) d_Law_main_1369 rfl rfl ?_
  refine w_aload_n (q := 1371) d_Law_main_1370 rfl rfl ?_
  refine w_iload (q := 1373) d_Law_main_1371 rfl rfl ?_
  refine w_iconst (q := 1374) (v := 1) d_Law_main_1373 rfl (by decide) ?_
  refine w_iadd (q := 1375) d_Law_main_1374 rfl ?_
  obtain ⟨v1, hv, h⟩ := bnd h
  obtain ⟨hi, hv⟩ := rx_ok hv
  refine w_sld (q := 1376) d_Law_main_1375 rfl hi ?_
  rw [hv]
  refine w_aload_n (q := 1377) d_Law_main_1376 rfl rfl ?_
  obtain ⟨v2, hv, h⟩ := bnd h
  refine w_callHi (q := 1380) (M' := M_Law_game) (n' := 6) (As := [.ref 0, .int v1, .ref 78]) (sh' := SH) (b1 := (1, 6)) (b2 := b) d_Law_main_1377 rfl mw_Law_game (by decide) (by decide) ml_Law_237 rfl rfl (leb rfl) rfl (fun h9 => absurd h9 (by decide)) (ok_Law_game hv) ?_
  refine w_istore (q := 1382) (ls' := [some (.ref 2097152), some (.ref 0), some (.ref 54), some (.ref 78), some (.int i), some (.int v2.1), none]) d_Law_main_1380 rfl (by decide) rfl rfl ?_
  refine w_aload_n (q := 1383) d_Law_main_1382 rfl rfl ?_
  refine w_aload_n (q := 1384) d_Law_main_1383 rfl rfl ?_
  refine w_iload (q := 1386) d_Law_main_1384 rfl rfl ?_
  refine w_iconst (q := 1387) (v := 1) d_Law_main_1386 rfl (by decide) ?_
  refine w_iadd (q := 1388) d_Law_main_1387 rfl ?_
  obtain ⟨v3, hv, h⟩ := bnd h
  obtain ⟨hi, hv⟩ := rx_ok hv
  refine w_sld (q := 1389) d_Law_main_1388 rfl hi ?_
  rw [hv]
  obtain ⟨v4, hv, h⟩ := bnd h
  refine w_callVi (q := 1392) (M' := M_Model_game) (n' := 8) (k := 54) (As := [.int v3]) (sh' := SH) (b1 := (0, 0)) d_Law_main_1389 rfl mw_Model_game (by decide) (by decide) ml_Law_239 (by decide) s_54 (by decide) rfl rfl rfl (leb rfl) (bz _) (fun _ => rfl) (ok_Model_game hv) ?_
  refine w_istore (q := 1394) (ls' := [some (.ref 2097152), some (.ref 0), some (.ref 54), some (.ref 78), some (.int i), some (.int v2.1), some (.int v4.1)]) d_Law_main_1392 rfl (by decide) rfl rfl ?_
  refine w_goto (q := 1473) d_Law_main_1394 rfl ?_
  cases h
  refine w_ls (ls' := [some (.ref 2097152), some (.ref 0), some (.ref 54), some (.ref 78), some (.int i), none, none]) (And.intro rfl (And.intro rfl (And.intro rfl (And.intro rfl (And.intro rfl trivial))))) ?_
  exact hr
def sp_case_37 (F L : Nat) (xs : Nat → Int32) (i : Int32) (g : Mem) : Option (Mem ⊕ Unit) := (rx L xs (i + 1)).bind fun v1 => (rx L xs (i + 2)).bind fun v2 => (rx L xs (i + 3)).bind fun v3 => (sp_Law_season F v1 v2 v3 g).bind fun v4 => (rx L xs (i + 1)).bind fun v5 => (rx L xs (i + 2)).bind fun v6 => (rx L xs (i + 3)).bind fun v7 => (sp_Model_season F v5 v6 v7 v4.2).bind fun v8 => some (.inl v8.2)
theorem ok_case_37 {γ : GG} {F : Nat} {i : Int32} {g : Mem} {b : Nat × Nat} {Φ : PO} {r : Mem ⊕ Unit} (h : sp_case_37 F (gS γ).2.1 (gS γ).2.2 i g = some r) (hr : RQ (fun g9 => WA γ M_Law_main 130 1473 (lwL i) [] SH g9 false b Φ) (fun _ => False) r) : WA γ M_Law_main 130 1397 (lwL i) [] SH g false (1 + b.1, 6 + b.2) Φ := by
  unfold sp_case_37 at h
  refine w_aload_n (q := 1398) d_Law_main_1397 rfl rfl ?_
  refine w_aload_n (q := 1399) d_Law_main_1398 rfl rfl ?_
  refine w_iload (q := 1401) d_Law_main_1399 rfl rfl ?_
  refine w_iconst (q := 1402) (v := 1) d_Law_main_1401 rfl (by decide) ?_
  refine w_iadd (q := 1403) d_Law_main_1402 rfl ?_
  obtain ⟨v1, hv, h⟩ := bnd h
  obtain ⟨hi, hv⟩ := rx_ok hv
  refine w_sld (q := 1404) d_Law_main_1403 rfl hi ?_
  rw [hv]
  refine w_aload_n (q := 1405) d_Law_main_1404 rfl rfl ?_
  refine w_iload (q := 1407) d_Law_main_1405 rfl rfl ?_
  refine w_iconst (q := 1408) (v := 2) d_Law_main_1407 rfl (by decide) ?_
  refine w_iadd (q := 1409) d_Law_main_1408 rfl ?_
  obtain ⟨v2, hv, h⟩ := bnd h
  obtain ⟨hi, hv⟩ := rx_ok hv
  refine w_sld (q := 1410) d_Law_main_1409 rfl hi ?_
  rw [hv]
  refine w_aload_n (q := 1411) d_Law_main_1410 rfl rfl ?_
  refine w_iload (q := 1413) d_Law_main_1411 rfl rfl ?_
  refine w_iconst (q := 1414) (v := 3) d_Law_main_1413 rfl (by decide) ?_
  refine w_iadd (q := 1415) d_Law_main_1414 rfl ?_
  obtain ⟨v3, hv, h⟩ := bnd h
  obtain ⟨hi, hv⟩ := rx_ok hv
  refine w_sld (q := 1416) d_Law_main_1415 rfl hi ?_
  rw [hv]
  refine w_aload_n (q := 1417) d_Law_main_1416 rfl rfl ?_
  obtain ⟨v4, hv, h⟩ := bnd h
  refine w_callHi (q := 1420) (M' := M_Law_season) (n' := 8) (As := [.ref 0, .int v1, .int v2, .int v3, .ref 78]) (sh' := SH) (b1 := (1, 6)) (b2 := b) d_Law_main_1417 rfl mw_Law_season (by decide) (by decide) ml_Law_240 rfl rfl (leb rfl) rfl (fun h9 => absurd h9 (by decide)) (ok_Law_season hv) ?_
  refine w_istore (q := 1422) (ls' := [some (.ref 2097152), some (.ref 0), some (.ref 54), some (.ref 78), some (.int i), some (.int v4.1), none]) d_Law_main_1420 rfl (by decide) rfl rfl ?_
  refine w_aload_n (q := 1423) d_Law_main_1422 rfl rfl ?_
  refine w_aload_n (q := 1424) d_Law_main_1423 rfl rfl ?_
  refine w_iload (q := 1426) d_Law_main_1424 rfl rfl ?_
  refine w_iconst (q := 1427) (v := 1) d_Law_main_1426 rfl (by decide) ?_
  refine w_iadd (q := 1428) d_Law_main_1427 rfl ?_
  obtain ⟨v5, hv, h⟩ := bnd h
  obtain ⟨hi, hv⟩ := rx_ok hv
  refine w_sld (q := 1429) d_Law_main_1428 rfl hi ?_
  rw [hv]
  refine w_aload_n (q := 1430) d_Law_main_1429 rfl rfl ?_
  refine w_iload (q := 1432) d_Law_main_1430 rfl rfl ?_
  refine w_iconst (q := 1433) (v := 2) d_Law_main_1432 rfl (by decide) ?_
  refine w_iadd (q := 1434) d_Law_main_1433 rfl ?_
  obtain ⟨v6, hv, h⟩ := bnd h
  obtain ⟨hi, hv⟩ := rx_ok hv
  refine w_sld (q := 1435) d_Law_main_1434 rfl hi ?_
  rw [hv]
  refine w_aload_n (q := 1436) d_Law_main_1435 rfl rfl ?_
  refine w_iload (q := 1438) d_Law_main_1436 rfl rfl ?_
  refine w_iconst (q := 1439) (v := 3) d_Law_main_1438 rfl (by decide) ?_
  refine w_iadd (q := 1440) d_Law_main_1439 rfl ?_
  obtain ⟨v7, hv, h⟩ := bnd h
  obtain ⟨hi, hv⟩ := rx_ok hv
  refine w_sld (q := 1441) d_Law_main_1440 rfl hi ?_
  rw [hv]
  obtain ⟨v8, hv, h⟩ := bnd h
  refine w_callVi (q := 1444) (M' := M_Model_season) (n' := 5) (k := 54) (As := [.int v5, .int v6, .int v7]) (sh' := SH) (b1 := (0, 0)) d_Law_main_1441 rfl mw_Model_season (by decide) (by decide) ml_Law_242 (by decide) s_54 (by decide) rfl rfl rfl (leb rfl) (bz _) (fun _ => rfl) (ok_Model_season hv) ?_
  refine w_istore (q := 1446) (ls' := [some (.ref 2097152), some (.ref 0), some (.ref 54), some (.ref 78), some (.int i), some (.int v4.1), some (.int v8.1)]) d_Law_main_1444 rfl (by decide) rfl rfl ?_
  refine w_goto (q := 1473) d_Law_main_1446 rfl ?_
  cases h
  refine w_ls (ls' := [some (.ref 2097152), some (.ref 0), some (.ref 54), some (.ref 78), some (.int i), none, none]) (And.intro rfl (And.intro rfl (And.intro rfl (And.intro rfl (And.intro rfl trivial))))) ?_
  exact hr
def sp_case_38 (F L : Nat) (xs : Nat → Int32) (i : Int32) (g : Mem) : Option (Mem ⊕ Unit) := (sp_Hall_image g).bind fun v1 => (sp_Model_image F v1).bind fun v2 => some (.inl v2)
theorem ok_case_38 {γ : GG} {F : Nat} {i : Int32} {g : Mem} {b : Nat × Nat} {Φ : PO} {r : Mem ⊕ Unit} (h : sp_case_38 F (gS γ).2.1 (gS γ).2.2 i g = some r) (hr : RQ (fun g9 => WA γ M_Law_main 130 1473 (lwL i) [] SH g9 false b Φ) (fun _ => False) r) : WA γ M_Law_main 130 1449 (lwL i) [] SH g false (1 + b.1, 6 + b.2) Φ := by
  unfold sp_case_38 at h
  refine w_aload_n (q := 1450) d_Law_main_1449 rfl rfl ?_
  obtain ⟨v1, hv, h⟩ := bnd h
  refine w_callVv (q := 1453) (M' := M_Hall_image) (n' := 1) (k := 0) (As := []) (sh' := SH) (b1 := (0, 0)) d_Law_main_1450 rfl mw_Hall_image (by decide) (by decide) ml_Law_243 (by decide) s_0 (by decide) rfl rfl rfl (leb rfl) (bz _) (fun _ => rfl) (ok_Hall_image hv) ?_
  refine w_aload_n (q := 1454) d_Law_main_1453 rfl rfl ?_
  obtain ⟨v2, hv, h⟩ := bnd h
  refine w_callVv (q := 1457) (M' := M_Model_image) (n' := 1) (k := 54) (As := []) (sh' := SH) (b1 := (0, 0)) d_Law_main_1454 rfl mw_Model_image (by decide) (by decide) ml_Law_246 (by decide) s_54 (by decide) rfl rfl rfl (leb rfl) (bz _) (fun _ => rfl) (ok_Model_image hv) ?_
  refine w_goto (q := 1473) d_Law_main_1457 rfl ?_
  cases h
  refine w_ls (ls' := [some (.ref 2097152), some (.ref 0), some (.ref 54), some (.ref 78), some (.int i), none, none]) (And.intro rfl (And.intro rfl (And.intro rfl (And.intro rfl (And.intro rfl trivial))))) ?_
  exact w_wide (Nat.le_add_left _ _) (Nat.le_add_left _ _) hr
def sp_case_39 (F L : Nat) (xs : Nat → Int32) (i : Int32) (g : Mem) : Option (Mem ⊕ Unit) := (sp_Hall_restore g).bind fun v1 => (sp_Model_restore F v1.2).bind fun v2 => some (.inl v2.2)
theorem ok_case_39 {γ : GG} {F : Nat} {i : Int32} {g : Mem} {b : Nat × Nat} {Φ : PO} {r : Mem ⊕ Unit} (h : sp_case_39 F (gS γ).2.1 (gS γ).2.2 i g = some r) (hr : RQ (fun g9 => WA γ M_Law_main 130 1473 (lwL i) [] SH g9 false b Φ) (fun _ => False) r) : WA γ M_Law_main 130 1460 (lwL i) [] SH g false (1 + b.1, 6 + b.2) Φ := by
  unfold sp_case_39 at h
  refine w_aload_n (q := 1461) d_Law_main_1460 rfl rfl ?_
  obtain ⟨v1, hv, h⟩ := bnd h
  refine w_callVi (q := 1464) (M' := M_Hall_restore) (n' := 1) (k := 0) (As := []) (sh' := SH) (b1 := (0, 0)) d_Law_main_1461 rfl mw_Hall_restore (by decide) (by decide) ml_Law_247 (by decide) s_0 (by decide) rfl rfl rfl (leb rfl) (bz _) (fun _ => rfl) (ok_Hall_restore hv) ?_
  refine w_pop (q := 1465) d_Law_main_1464 rfl rfl ?_
  refine w_aload_n (q := 1466) d_Law_main_1465 rfl rfl ?_
  obtain ⟨v2, hv, h⟩ := bnd h
  refine w_callVi (q := 1469) (M' := M_Model_restore) (n' := 1) (k := 54) (As := []) (sh' := SH) (b1 := (0, 0)) d_Law_main_1466 rfl mw_Model_restore (by decide) (by decide) ml_Law_251 (by decide) s_54 (by decide) rfl rfl rfl (leb rfl) (bz _) (fun _ => rfl) (ok_Model_restore hv) ?_
  refine w_pop (q := 1470) d_Law_main_1469 rfl rfl ?_
  refine w_goto (q := 1473) d_Law_main_1470 rfl ?_
  cases h
  refine w_ls (ls' := [some (.ref 2097152), some (.ref 0), some (.ref 54), some (.ref 78), some (.int i), none, none]) (And.intro rfl (And.intro rfl (And.intro rfl (And.intro rfl (And.intro rfl trivial))))) ?_
  exact w_wide (Nat.le_add_left _ _) (Nat.le_add_left _ _) hr
def sp_sw (F L : Nat) (xs : Nat → Int32) (i : Int32) (g : Mem) (c : Int32) : Option (Mem ⊕ Unit) := if c = 0 then sp_case_0 F L xs i g else if c = 1 then sp_case_1 F L xs i g else if c = 2 then sp_case_2 F L xs i g else if c = 3 then sp_case_3 F L xs i g else if c = 4 then sp_case_4 F L xs i g else if c = 5 then sp_case_5 F L xs i g else if c = 6 then sp_case_6 F L xs i g else if c = 7 then sp_case_7 F L xs i g else if c = 8 then sp_case_8 F L xs i g else if c = 9 then sp_case_9 F L xs i g else if c = 10 then sp_case_10 F L xs i g else if c = 11 then sp_case_11 F L xs i g else if c = 12 then sp_case_12 F L xs i g else if c = 13 then sp_case_13 F L xs i g else if c = 14 then sp_case_14 F L xs i g else if c = 15 then sp_case_15 F L xs i g else if c = 16 then sp_case_16 F L xs i g else if c = 17 then sp_case_17 F L xs i g else if c = 18 then sp_case_18 F L xs i g else if c = 19 then sp_case_19 F L xs i g else if c = 20 then sp_case_20 F L xs i g else if c = 21 then sp_case_21 F L xs i g else if c = 22 then sp_case_22 F L xs i g else if c = 23 then sp_case_23 F L xs i g else if c = 24 then sp_case_24 F L xs i g else if c = 25 then sp_case_25 F L xs i g else if c = 26 then sp_case_26 F L xs i g else if c = 27 then sp_case_27 F L xs i g else if c = 28 then sp_case_28 F L xs i g else if c = 29 then sp_case_29 F L xs i g else if c = 30 then sp_case_30 F L xs i g else if c = 31 then sp_case_31 F L xs i g else if c = 32 then sp_case_32 F L xs i g else if c = 33 then sp_case_33 F L xs i g else if c = 34 then sp_case_34 F L xs i g else if c = 35 then sp_case_35 F L xs i g else if c = 36 then sp_case_36 F L xs i g else if c = 37 then sp_case_37 F L xs i g else if c = 38 then sp_case_38 F L xs i g else if c = 39 then sp_case_39 F L xs i g else some (.inl g)
set_option maxRecDepth 100000 in
set_option maxHeartbeats 4000000 in
theorem ok_sw {γ : GG} {F : Nat} {i : Int32} {g : Mem} {b : Nat × Nat} {Φ : PO} {r : Mem ⊕ Unit} {c : Int32} (h : sp_sw F (gS γ).2.1 (gS γ).2.2 i g c = some r) (hr : RQ (fun g9 => WA γ M_Law_main 130 1473 (lwL i) [] SH g9 false b Φ) (fun _ => False) r) : WA γ M_Law_main 130 40 (lwL i) [.int c] SH g false (1 + b.1, 6 + b.2) Φ := by
  unfold sp_sw at h
  by_cases c0 : c = 0
  · rw [if_pos c0] at h
    refine w_tabIn (q := 216) (off := 176) d_Law_main_40 (by rw [c0]; decide) (by rw [c0]; decide) (by rw [c0]; decide +kernel) rfl ?_
    exact ok_case_0 h hr
  rw [if_neg c0] at h
  by_cases c1 : c = 1
  · rw [if_pos c1] at h
    refine w_tabIn (q := 289) (off := 249) d_Law_main_40 (by rw [c1]; decide) (by rw [c1]; decide) (by rw [c1]; decide +kernel) rfl ?_
    exact ok_case_1 h hr
  rw [if_neg c1] at h
  by_cases c2 : c = 2
  · rw [if_pos c2] at h
    refine w_tabIn (q := 317) (off := 277) d_Law_main_40 (by rw [c2]; decide) (by rw [c2]; decide) (by rw [c2]; decide +kernel) rfl ?_
    exact ok_case_2 h hr
  rw [if_neg c2] at h
  by_cases c3 : c = 3
  · rw [if_pos c3] at h
    refine w_tabIn (q := 330) (off := 290) d_Law_main_40 (by rw [c3]; decide) (by rw [c3]; decide) (by rw [c3]; decide +kernel) rfl ?_
    exact ok_case_3 h hr
  rw [if_neg c3] at h
  by_cases c4 : c = 4
  · rw [if_pos c4] at h
    refine w_tabIn (q := 358) (off := 318) d_Law_main_40 (by rw [c4]; decide) (by rw [c4]; decide) (by rw [c4]; decide +kernel) rfl ?_
    exact ok_case_4 h hr
  rw [if_neg c4] at h
  by_cases c5 : c = 5
  · rw [if_pos c5] at h
    refine w_tabIn (q := 398) (off := 358) d_Law_main_40 (by rw [c5]; decide) (by rw [c5]; decide) (by rw [c5]; decide +kernel) rfl ?_
    exact ok_case_5 h hr
  rw [if_neg c5] at h
  by_cases c6 : c = 6
  · rw [if_pos c6] at h
    refine w_tabIn (q := 438) (off := 398) d_Law_main_40 (by rw [c6]; decide) (by rw [c6]; decide) (by rw [c6]; decide +kernel) rfl ?_
    exact ok_case_6 h hr
  rw [if_neg c6] at h
  by_cases c7 : c = 7
  · rw [if_pos c7] at h
    refine w_tabIn (q := 466) (off := 426) d_Law_main_40 (by rw [c7]; decide) (by rw [c7]; decide) (by rw [c7]; decide +kernel) rfl ?_
    exact ok_case_7 h hr
  rw [if_neg c7] at h
  by_cases c8 : c = 8
  · rw [if_pos c8] at h
    refine w_tabIn (q := 506) (off := 466) d_Law_main_40 (by rw [c8]; decide) (by rw [c8]; decide) (by rw [c8]; decide +kernel) rfl ?_
    exact ok_case_8 h hr
  rw [if_neg c8] at h
  by_cases c9 : c = 9
  · rw [if_pos c9] at h
    refine w_tabIn (q := 531) (off := 491) d_Law_main_40 (by rw [c9]; decide) (by rw [c9]; decide) (by rw [c9]; decide +kernel) rfl ?_
    exact ok_case_9 h hr
  rw [if_neg c9] at h
  by_cases c10 : c = 10
  · rw [if_pos c10] at h
    refine w_tabIn (q := 595) (off := 555) d_Law_main_40 (by rw [c10]; decide) (by rw [c10]; decide) (by rw [c10]; decide +kernel) rfl ?_
    exact ok_case_10 h hr
  rw [if_neg c10] at h
  by_cases c11 : c = 11
  · rw [if_pos c11] at h
    refine w_tabIn (q := 635) (off := 595) d_Law_main_40 (by rw [c11]; decide) (by rw [c11]; decide) (by rw [c11]; decide +kernel) rfl ?_
    exact ok_case_11 h hr
  rw [if_neg c11] at h
  by_cases c12 : c = 12
  · rw [if_pos c12] at h
    refine w_tabIn (q := 663) (off := 623) d_Law_main_40 (by rw [c12]; decide) (by rw [c12]; decide) (by rw [c12]; decide +kernel) rfl ?_
    exact ok_case_12 h hr
  rw [if_neg c12] at h
  by_cases c13 : c = 13
  · rw [if_pos c13] at h
    refine w_tabIn (q := 691) (off := 651) d_Law_main_40 (by rw [c13]; decide) (by rw [c13]; decide) (by rw [c13]; decide +kernel) rfl ?_
    exact ok_case_13 h hr
  rw [if_neg c13] at h
  by_cases c14 : c = 14
  · rw [if_pos c14] at h
    refine w_tabIn (q := 731) (off := 691) d_Law_main_40 (by rw [c14]; decide) (by rw [c14]; decide) (by rw [c14]; decide +kernel) rfl ?_
    exact ok_case_14 h hr
  rw [if_neg c14] at h
  by_cases c15 : c = 15
  · rw [if_pos c15] at h
    refine w_tabIn (q := 783) (off := 743) d_Law_main_40 (by rw [c15]; decide) (by rw [c15]; decide) (by rw [c15]; decide +kernel) rfl ?_
    exact ok_case_15 h hr
  rw [if_neg c15] at h
  by_cases c16 : c = 16
  · rw [if_pos c16] at h
    refine w_tabIn (q := 811) (off := 771) d_Law_main_40 (by rw [c16]; decide) (by rw [c16]; decide) (by rw [c16]; decide +kernel) rfl ?_
    exact ok_case_16 h hr
  rw [if_neg c16] at h
  by_cases c17 : c = 17
  · rw [if_pos c17] at h
    refine w_tabIn (q := 824) (off := 784) d_Law_main_40 (by rw [c17]; decide) (by rw [c17]; decide) (by rw [c17]; decide +kernel) rfl ?_
    exact ok_case_17 h hr
  rw [if_neg c17] at h
  by_cases c18 : c = 18
  · rw [if_pos c18] at h
    refine w_tabIn (q := 852) (off := 812) d_Law_main_40 (by rw [c18]; decide) (by rw [c18]; decide) (by rw [c18]; decide +kernel) rfl ?_
    exact ok_case_18 h hr
  rw [if_neg c18] at h
  by_cases c19 : c = 19
  · rw [if_pos c19] at h
    refine w_tabIn (q := 865) (off := 825) d_Law_main_40 (by rw [c19]; decide) (by rw [c19]; decide) (by rw [c19]; decide +kernel) rfl ?_
    exact ok_case_19 h hr
  rw [if_neg c19] at h
  by_cases c20 : c = 20
  · rw [if_pos c20] at h
    refine w_tabIn (q := 893) (off := 853) d_Law_main_40 (by rw [c20]; decide) (by rw [c20]; decide) (by rw [c20]; decide +kernel) rfl ?_
    exact ok_case_20 h hr
  rw [if_neg c20] at h
  by_cases c21 : c = 21
  · rw [if_pos c21] at h
    refine w_tabIn (q := 906) (off := 866) d_Law_main_40 (by rw [c21]; decide) (by rw [c21]; decide) (by rw [c21]; decide +kernel) rfl ?_
    exact ok_case_21 h hr
  rw [if_neg c21] at h
  by_cases c22 : c = 22
  · rw [if_pos c22] at h
    refine w_tabIn (q := 919) (off := 879) d_Law_main_40 (by rw [c22]; decide) (by rw [c22]; decide) (by rw [c22]; decide +kernel) rfl ?_
    exact ok_case_22 h hr
  rw [if_neg c22] at h
  by_cases c23 : c = 23
  · rw [if_pos c23] at h
    refine w_tabIn (q := 947) (off := 907) d_Law_main_40 (by rw [c23]; decide) (by rw [c23]; decide) (by rw [c23]; decide +kernel) rfl ?_
    exact ok_case_23 h hr
  rw [if_neg c23] at h
  by_cases c24 : c = 24
  · rw [if_pos c24] at h
    refine w_tabIn (q := 975) (off := 935) d_Law_main_40 (by rw [c24]; decide) (by rw [c24]; decide) (by rw [c24]; decide +kernel) rfl ?_
    exact ok_case_24 h hr
  rw [if_neg c24] at h
  by_cases c25 : c = 25
  · rw [if_pos c25] at h
    refine w_tabIn (q := 1027) (off := 987) d_Law_main_40 (by rw [c25]; decide) (by rw [c25]; decide) (by rw [c25]; decide +kernel) rfl ?_
    exact ok_case_25 h hr
  rw [if_neg c25] at h
  by_cases c26 : c = 26
  · rw [if_pos c26] at h
    refine w_tabIn (q := 1067) (off := 1027) d_Law_main_40 (by rw [c26]; decide) (by rw [c26]; decide) (by rw [c26]; decide +kernel) rfl ?_
    exact ok_case_26 h hr
  rw [if_neg c26] at h
  by_cases c27 : c = 27
  · rw [if_pos c27] at h
    refine w_tabIn (q := 1107) (off := 1067) d_Law_main_40 (by rw [c27]; decide) (by rw [c27]; decide) (by rw [c27]; decide +kernel) rfl ?_
    exact ok_case_27 h hr
  rw [if_neg c27] at h
  by_cases c28 : c = 28
  · rw [if_pos c28] at h
    refine w_tabIn (q := 1135) (off := 1095) d_Law_main_40 (by rw [c28]; decide) (by rw [c28]; decide) (by rw [c28]; decide +kernel) rfl ?_
    exact ok_case_28 h hr
  rw [if_neg c28] at h
  by_cases c29 : c = 29
  · rw [if_pos c29] at h
    refine w_tabIn (q := 1163) (off := 1123) d_Law_main_40 (by rw [c29]; decide) (by rw [c29]; decide) (by rw [c29]; decide +kernel) rfl ?_
    exact ok_case_29 h hr
  rw [if_neg c29] at h
  by_cases c30 : c = 30
  · rw [if_pos c30] at h
    refine w_tabIn (q := 1191) (off := 1151) d_Law_main_40 (by rw [c30]; decide) (by rw [c30]; decide) (by rw [c30]; decide +kernel) rfl ?_
    exact ok_case_30 h hr
  rw [if_neg c30] at h
  by_cases c31 : c = 31
  · rw [if_pos c31] at h
    refine w_tabIn (q := 1204) (off := 1164) d_Law_main_40 (by rw [c31]; decide) (by rw [c31]; decide) (by rw [c31]; decide +kernel) rfl ?_
    exact ok_case_31 h hr
  rw [if_neg c31] at h
  by_cases c32 : c = 32
  · rw [if_pos c32] at h
    refine w_tabIn (q := 1232) (off := 1192) d_Law_main_40 (by rw [c32]; decide) (by rw [c32]; decide) (by rw [c32]; decide +kernel) rfl ?_
    exact ok_case_32 h hr
  rw [if_neg c32] at h
  by_cases c33 : c = 33
  · rw [if_pos c33] at h
    refine w_tabIn (q := 1260) (off := 1220) d_Law_main_40 (by rw [c33]; decide) (by rw [c33]; decide) (by rw [c33]; decide +kernel) rfl ?_
    exact ok_case_33 h hr
  rw [if_neg c33] at h
  by_cases c34 : c = 34
  · rw [if_pos c34] at h
    refine w_tabIn (q := 1316) (off := 1276) d_Law_main_40 (by rw [c34]; decide) (by rw [c34]; decide) (by rw [c34]; decide +kernel) rfl ?_
    exact ok_case_34 h hr
  rw [if_neg c34] at h
  by_cases c35 : c = 35
  · rw [if_pos c35] at h
    refine w_tabIn (q := 1356) (off := 1316) d_Law_main_40 (by rw [c35]; decide) (by rw [c35]; decide) (by rw [c35]; decide +kernel) rfl ?_
    exact ok_case_35 h hr
  rw [if_neg c35] at h
  by_cases c36 : c = 36
  · rw [if_pos c36] at h
    refine w_tabIn (q := 1369) (off := 1329) d_Law_main_40 (by rw [c36]; decide) (by rw [c36]; decide) (by rw [c36]; decide +kernel) rfl ?_
    exact ok_case_36 h hr
  rw [if_neg c36] at h
  by_cases c37 : c = 37
  · rw [if_pos c37] at h
    refine w_tabIn (q := 1397) (off := 1357) d_Law_main_40 (by rw [c37]; decide) (by rw [c37]; decide) (by rw [c37]; decide +kernel) rfl ?_
    exact ok_case_37 h hr
  rw [if_neg c37] at h
  by_cases c38 : c = 38
  · rw [if_pos c38] at h
    refine w_tabIn (q := 1449) (off := 1409) d_Law_main_40 (by rw [c38]; decide) (by rw [c38]; decide) (by rw [c38]; decide +kernel) rfl ?_
    exact ok_case_38 h hr
  rw [if_neg c38] at h
  by_cases c39 : c = 39
  · rw [if_pos c39] at h
    refine w_tabIn (q := 1460) (off := 1420) d_Law_main_40 (by rw [c39]; decide) (by rw [c39]; decide) (by rw [c39]; decide +kernel) rfl ?_
    exact ok_case_39 h hr
  rw [if_neg c39] at h
  have hsw : c.toInt < 0 ∨ 39 < c.toInt := by
    refine sw_out (fun z h1 h2 e => ?_)
    have h9 : z = 0 ∨ z = 1 ∨ z = 2 ∨ z = 3 ∨ z = 4 ∨ z = 5 ∨ z = 6 ∨ z = 7 ∨ z = 8 ∨ z = 9 ∨ z = 10 ∨ z = 11 ∨ z = 12 ∨ z = 13 ∨ z = 14 ∨ z = 15 ∨ z = 16 ∨ z = 17 ∨ z = 18 ∨ z = 19 ∨ z = 20 ∨ z = 21 ∨ z = 22 ∨ z = 23 ∨ z = 24 ∨ z = 25 ∨ z = 26 ∨ z = 27 ∨ z = 28 ∨ z = 29 ∨ z = 30 ∨ z = 31 ∨ z = 32 ∨ z = 33 ∨ z = 34 ∨ z = 35 ∨ z = 36 ∨ z = 37 ∨ z = 38 ∨ z = 39 := by omega
    rcases h9 with rfl | rfl | rfl | rfl | rfl | rfl | rfl | rfl | rfl | rfl | rfl | rfl | rfl | rfl | rfl | rfl | rfl | rfl | rfl | rfl | rfl | rfl | rfl | rfl | rfl | rfl | rfl | rfl | rfl | rfl | rfl | rfl | rfl | rfl | rfl | rfl | rfl | rfl | rfl | rfl
    · exact c0 (Int32.toInt_inj.mp (e.trans (by decide)))
    · exact c1 (Int32.toInt_inj.mp (e.trans (by decide)))
    · exact c2 (Int32.toInt_inj.mp (e.trans (by decide)))
    · exact c3 (Int32.toInt_inj.mp (e.trans (by decide)))
    · exact c4 (Int32.toInt_inj.mp (e.trans (by decide)))
    · exact c5 (Int32.toInt_inj.mp (e.trans (by decide)))
    · exact c6 (Int32.toInt_inj.mp (e.trans (by decide)))
    · exact c7 (Int32.toInt_inj.mp (e.trans (by decide)))
    · exact c8 (Int32.toInt_inj.mp (e.trans (by decide)))
    · exact c9 (Int32.toInt_inj.mp (e.trans (by decide)))
    · exact c10 (Int32.toInt_inj.mp (e.trans (by decide)))
    · exact c11 (Int32.toInt_inj.mp (e.trans (by decide)))
    · exact c12 (Int32.toInt_inj.mp (e.trans (by decide)))
    · exact c13 (Int32.toInt_inj.mp (e.trans (by decide)))
    · exact c14 (Int32.toInt_inj.mp (e.trans (by decide)))
    · exact c15 (Int32.toInt_inj.mp (e.trans (by decide)))
    · exact c16 (Int32.toInt_inj.mp (e.trans (by decide)))
    · exact c17 (Int32.toInt_inj.mp (e.trans (by decide)))
    · exact c18 (Int32.toInt_inj.mp (e.trans (by decide)))
    · exact c19 (Int32.toInt_inj.mp (e.trans (by decide)))
    · exact c20 (Int32.toInt_inj.mp (e.trans (by decide)))
    · exact c21 (Int32.toInt_inj.mp (e.trans (by decide)))
    · exact c22 (Int32.toInt_inj.mp (e.trans (by decide)))
    · exact c23 (Int32.toInt_inj.mp (e.trans (by decide)))
    · exact c24 (Int32.toInt_inj.mp (e.trans (by decide)))
    · exact c25 (Int32.toInt_inj.mp (e.trans (by decide)))
    · exact c26 (Int32.toInt_inj.mp (e.trans (by decide)))
    · exact c27 (Int32.toInt_inj.mp (e.trans (by decide)))
    · exact c28 (Int32.toInt_inj.mp (e.trans (by decide)))
    · exact c29 (Int32.toInt_inj.mp (e.trans (by decide)))
    · exact c30 (Int32.toInt_inj.mp (e.trans (by decide)))
    · exact c31 (Int32.toInt_inj.mp (e.trans (by decide)))
    · exact c32 (Int32.toInt_inj.mp (e.trans (by decide)))
    · exact c33 (Int32.toInt_inj.mp (e.trans (by decide)))
    · exact c34 (Int32.toInt_inj.mp (e.trans (by decide)))
    · exact c35 (Int32.toInt_inj.mp (e.trans (by decide)))
    · exact c36 (Int32.toInt_inj.mp (e.trans (by decide)))
    · exact c37 (Int32.toInt_inj.mp (e.trans (by decide)))
    · exact c38 (Int32.toInt_inj.mp (e.trans (by decide)))
    · exact c39 (Int32.toInt_inj.mp (e.trans (by decide)))
  refine w_tabOut (q := 1473) d_Law_main_40 hsw rfl ?_
  cases h
  exact w_wide (Nat.le_add_left _ _) (Nat.le_add_left _ _) hr
