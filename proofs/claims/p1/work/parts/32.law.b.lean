/-! the law's calls, one by one (by program: wip/gen/lawm.py) -/
abbrev lwL (i : Int32) : List (Option Value) := [some (.ref 2097152), some (.ref 0), some (.ref 54), some (.ref 78), some (.int i), none, none]
def sp_case_0 (F L : Nat) (xs : Nat → Int32) (i : Int32) (g : Mem) : Option (Mem ⊕ Unit) := (rx L xs (i + 1)).bind fun v1 => (rx L xs (i + 2)).bind fun v2 => (rx L xs (i + 3)).bind fun v3 => (rx L xs (i + 4)).bind fun v4 => (rx L xs (i + 5)).bind fun v5 => (sp_Hall_feed F v1 v2 v3 v4 v5 g).bind fun v6 => (rx L xs (i + 1)).bind fun v7 => (rx L xs (i + 2)).bind fun v8 => (rx L xs (i + 3)).bind fun v9 => (rx L xs (i + 4)).bind fun v10 => (rx L xs (i + 5)).bind fun v11 => (sp_Model_feed F v7 v8 v9 v10 v11 v6.2).bind fun v12 => if v6.1 = v12.1 then some (.inl v12.2) else some (.inr ())
theorem ok_case_0 {γ : GG} {F : Nat} {i : Int32} {g : Mem} {b : Nat × Nat} {Φ : PO} {r : Mem ⊕ Unit} (h : sp_case_0 F (gS γ).2.1 (gS γ).2.2 i g = some r) (hr : RQ (fun g9 => WA γ M_Law_main 130 2313 (lwL i) [] SH g9 false b Φ) (fun _ => False) r) : WA γ M_Law_main 130 216 (lwL i) [] SH g false (1 + b.1, 6 + b.2) Φ := by
  unfold sp_case_0 at h
  refine w_aload_n (q := 217) d_Law_main_216 rfl rfl ?_
  refine w_aload_n (q := 218) d_Law_main_217 rfl rfl ?_
  refine w_iload (q := 220) d_Law_main_218 rfl rfl ?_
  refine w_iconst (q := 221) (v := 1) d_Law_main_220 rfl (by decide) ?_
  refine w_iadd (q := 222) d_Law_main_221 rfl ?_
  obtain ⟨v1, hv, h⟩ := bnd h
  obtain ⟨hi, hv⟩ := rx_ok hv
  refine w_sld (q := 223) d_Law_main_222 rfl hi ?_
  rw [hv]
  refine w_aload_n (q := 224) d_Law_main_223 rfl rfl ?_
  refine w_iload (q := 226) d_Law_main_224 rfl rfl ?_
  refine w_iconst (q := 227) (v := 2) d_Law_main_226 rfl (by decide) ?_
  refine w_iadd (q := 228) d_Law_main_227 rfl ?_
  obtain ⟨v2, hv, h⟩ := bnd h
  obtain ⟨hi, hv⟩ := rx_ok hv
  refine w_sld (q := 229) d_Law_main_228 rfl hi ?_
  rw [hv]
  refine w_aload_n (q := 230) d_Law_main_229 rfl rfl ?_
  refine w_iload (q := 232) d_Law_main_230 rfl rfl ?_
  refine w_iconst (q := 233) (v := 3) d_Law_main_232 rfl (by decide) ?_
  refine w_iadd (q := 234) d_Law_main_233 rfl ?_
  obtain ⟨v3, hv, h⟩ := bnd h
  obtain ⟨hi, hv⟩ := rx_ok hv
  refine w_sld (q := 235) d_Law_main_234 rfl hi ?_
  rw [hv]
  refine w_aload_n (q := 236) d_Law_main_235 rfl rfl ?_
  refine w_iload (q := 238) d_Law_main_236 rfl rfl ?_
  refine w_iconst (q := 239) (v := 4) d_Law_main_238 rfl (by decide) ?_
  refine w_iadd (q := 240) d_Law_main_239 rfl ?_
  obtain ⟨v4, hv, h⟩ := bnd h
  obtain ⟨hi, hv⟩ := rx_ok hv
  refine w_sld (q := 241) d_Law_main_240 rfl hi ?_
  rw [hv]
  refine w_aload_n (q := 242) d_Law_main_241 rfl rfl ?_
  refine w_iload (q := 244) d_Law_main_242 rfl rfl ?_
  refine w_iconst (q := 245) (v := 5) d_Law_main_244 rfl (by decide) ?_
  refine w_iadd (q := 246) d_Law_main_245 rfl ?_
  obtain ⟨v5, hv, h⟩ := bnd h
  obtain ⟨hi, hv⟩ := rx_ok hv
  refine w_sld (q := 247) d_Law_main_246 rfl hi ?_
  rw [hv]
  obtain ⟨v6, hv, h⟩ := bnd h
  refine w_callVi (q := 250) (M' := M_Hall_feed) (n' := 1) (k := 0) (As := [.int v1, .int v2, .int v3, .int v4, .int v5]) (sh' := SH) (b1 := (0, 0)) d_Law_main_247 rfl mw_Hall_feed (by decide) (by decide) ml_Law_111 (by decide) s_0 (by decide) rfl rfl rfl (leb rfl) (bz _) (fun _ => rfl) (ok_Hall_feed hv) ?_
  refine w_aload_n (q := 251) d_Law_main_250 rfl rfl ?_
  refine w_aload_n (q := 252) d_Law_main_251 rfl rfl ?_
  refine w_iload (q := 254) d_Law_main_252 rfl rfl ?_
  refine w_iconst (q := 255) (v := 1) d_Law_main_254 rfl (by decide) ?_
  refine w_iadd (q := 256) d_Law_main_255 rfl ?_
  obtain ⟨v7, hv, h⟩ := bnd h
  obtain ⟨hi, hv⟩ := rx_ok hv
  refine w_sld (q := 257) d_Law_main_256 rfl hi ?_
  rw [hv]
  refine w_aload_n (q := 258) d_Law_main_257 rfl rfl ?_
  refine w_iload (q := 260) d_Law_main_258 rfl rfl ?_
  refine w_iconst (q := 261) (v := 2) d_Law_main_260 rfl (by decide) ?_
  refine w_iadd (q := 262) d_Law_main_261 rfl ?_
  obtain ⟨v8, hv, h⟩ := bnd h
  obtain ⟨hi, hv⟩ := rx_ok hv
  refine w_sld (q := 263) d_Law_main_262 rfl hi ?_
  rw [hv]
  refine w_aload_n (q := 264) d_Law_main_263 rfl rfl ?_
  refine w_iload (q := 266) d_Law_main_264 rfl rfl ?_
  refine w_iconst (q := 267) (v := 3) d_Law_main_266 rfl (by decide) ?_
  refine w_iadd (q := 268) d_Law_main_267 rfl ?_
  obtain ⟨v9, hv, h⟩ := bnd h
  obtain ⟨hi, hv⟩ := rx_ok hv
  refine w_sld (q := 269) d_Law_main_268 rfl hi ?_
  rw [hv]
  refine w_aload_n (q := 270) d_Law_main_269 rfl rfl ?_
  refine w_iload (q := 272) d_Law_main_270 rfl rfl ?_
  refine w_iconst (q := 273) (v := 4) d_Law_main_272 rfl (by decide) ?_
  refine w_iadd (q := 274) d_Law_main_273 rfl ?_
  obtain ⟨v10, hv, h⟩ := bnd h
  obtain ⟨hi, hv⟩ := rx_ok hv
  refine w_sld (q := 275) d_Law_main_274 rfl hi ?_
  rw [hv]
  refine w_aload_n (q := 276) d_Law_main_275 rfl rfl ?_
  refine w_iload (q := 278) d_Law_main_276 rfl rfl ?_
  refine w_iconst (q := 279) (v := 5) d_Law_main_278 rfl (by decide) ?_
  refine w_iadd (q := 280) d_Law_main_279 rfl ?_
  obtain ⟨v11, hv, h⟩ := bnd h
  obtain ⟨hi, hv⟩ := rx_ok hv
  refine w_sld (q := 281) d_Law_main_280 rfl hi ?_
  rw [hv]
  obtain ⟨v12, hv, h⟩ := bnd h
  refine w_callVi (q := 284) (M' := M_Model_feed) (n' := 0) (k := 54) (As := [.int v7, .int v8, .int v9, .int v10, .int v11]) (sh' := SH) (b1 := (0, 0)) d_Law_main_281 rfl mw_Model_feed (by decide) (by decide) ml_Law_115 (by decide) s_54 (by decide) rfl rfl rfl (leb rfl) (bz _) (fun _ => rfl) (ok_Model_feed hv) ?_
  by_cases c13 : v6.1 = v12.1
  · rw [if_pos c13] at h
    refine w_icmp_eq_t (q := 2313) d_Law_main_284 rfl c13 ?_
    cases h
    refine w_ls (ls' := [some (.ref 2097152), some (.ref 0), some (.ref 54), some (.ref 78), some (.int i), none, none]) (And.intro rfl (And.intro rfl (And.intro rfl (And.intro rfl (And.intro rfl trivial))))) ?_
    exact w_wide (Nat.le_add_left _ _) (Nat.le_add_left _ _) hr
  · rw [if_neg c13] at h
    refine w_icmp_eq_f (q := 287) d_Law_main_284 2313 rfl rfl c13 ?_
    refine w_iconst (q := 288) (v := 0) d_Law_main_287 rfl (by decide) ?_
    cases h
    exact hr.elim
def sp_case_1 (F L : Nat) (xs : Nat → Int32) (i : Int32) (g : Mem) : Option (Mem ⊕ Unit) := (rx L xs (i + 1)).bind fun v1 => (sp_Law_archive F v1 g).bind fun v2 => (rx L xs (i + 1)).bind fun v3 => (sp_Model_archive F v3 v2.2).bind fun v4 => (sp_Model_thrown v4.2).bind fun v5 => if v5 = v2.1 then if v2.1 = 0 then (rd v4.2 78 1 0).bind fun v8 => if (lg_cmp v8.toInt64 v4.1.toInt64) = 0 then some (.inl v4.2) else some (.inr ()) else some (.inl v4.2) else some (.inr ())
theorem ok_case_1 {γ : GG} {F : Nat} {i : Int32} {g : Mem} {b : Nat × Nat} {Φ : PO} {r : Mem ⊕ Unit} (h : sp_case_1 F (gS γ).2.1 (gS γ).2.2 i g = some r) (hr : RQ (fun g9 => WA γ M_Law_main 130 2313 (lwL i) [] SH g9 false b Φ) (fun _ => False) r) : WA γ M_Law_main 130 289 (lwL i) [] SH g false (1 + b.1, 6 + b.2) Φ := by
  unfold sp_case_1 at h
  refine w_aload_n (q := 290) d_Law_main_289 rfl rfl ?_
  refine w_aload_n (q := 291) d_Law_main_290 rfl rfl ?_
  refine w_iload (q := 293) d_Law_main_291 rfl rfl ?_
  refine w_iconst (q := 294) (v := 1) d_Law_main_293 rfl (by decide) ?_
  refine w_iadd (q := 295) d_Law_main_294 rfl ?_
  obtain ⟨v1, hv, h⟩ := bnd h
  obtain ⟨hi, hv⟩ := rx_ok hv
  refine w_sld (q := 296) d_Law_main_295 rfl hi ?_
  rw [hv]
  refine w_aload_n (q := 297) d_Law_main_296 rfl rfl ?_
  obtain ⟨v2, hv, h⟩ := bnd h
  refine w_callHi (q := 300) (M' := M_Law_archive) (n' := 123) (As := [.ref 0, .int v1, .ref 78]) (sh' := SH) (b1 := (1, 6)) (b2 := b) d_Law_main_297 rfl mw_Law_archive (by decide) (by decide) ml_Law_116 rfl rfl (leb rfl) rfl (fun h9 => absurd h9 (by decide)) (ok_Law_archive hv) ?_
  refine w_istore (q := 302) (ls' := [some (.ref 2097152), some (.ref 0), some (.ref 54), some (.ref 78), some (.int i), some (.int v2.1), none]) d_Law_main_300 rfl (by decide) rfl rfl ?_
  refine w_aload_n (q := 303) d_Law_main_302 rfl rfl ?_
  refine w_aload_n (q := 304) d_Law_main_303 rfl rfl ?_
  refine w_iload (q := 306) d_Law_main_304 rfl rfl ?_
  refine w_iconst (q := 307) (v := 1) d_Law_main_306 rfl (by decide) ?_
  refine w_iadd (q := 308) d_Law_main_307 rfl ?_
  obtain ⟨v3, hv, h⟩ := bnd h
  obtain ⟨hi, hv⟩ := rx_ok hv
  refine w_sld (q := 309) d_Law_main_308 rfl hi ?_
  rw [hv]
  obtain ⟨v4, hv, h⟩ := bnd h
  refine w_callVi (q := 312) (M' := M_Model_archive) (n' := 121) (k := 54) (As := [.int v3]) (sh' := SH) (b1 := (0, 0)) d_Law_main_309 rfl mw_Model_archive (by decide) (by decide) ml_Law_121 (by decide) s_54 (by decide) rfl rfl rfl (leb rfl) (bz _) (fun _ => rfl) (ok_Model_archive hv) ?_
  refine w_istore (q := 314) (ls' := [some (.ref 2097152), some (.ref 0), some (.ref 54), some (.ref 78), some (.int i), some (.int v2.1), some (.int v4.1)]) d_Law_main_312 rfl (by decide) rfl rfl ?_
  refine w_aload_n (q := 315) d_Law_main_314 rfl rfl ?_
  obtain ⟨v5, hv, h⟩ := bnd h
  refine w_callVi (q := 318) (M' := M_Model_thrown) (n' := 0) (k := 54) (As := []) (sh' := SH) (b1 := (0, 0)) d_Law_main_315 rfl mw_Model_thrown (by decide) (by decide) ml_Law_122 (by decide) s_54 (by decide) rfl rfl rfl (leb rfl) (bz _) (fun _ => rfl) (ok_Model_thrown hv) ?_
  refine w_iload (q := 320) d_Law_main_318 rfl rfl ?_
  by_cases c6 : v5 = v2.1
  · rw [if_pos c6] at h
    refine w_icmp_eq_t (q := 325) d_Law_main_320 rfl c6 ?_
    refine w_iload (q := 327) d_Law_main_325 rfl rfl ?_
    by_cases c7 : v2.1 = 0
    · rw [if_pos c7] at h
      refine w_if_ne_f (q := 330) d_Law_main_327 342 rfl rfl c7 ?_
      refine w_aload_n (q := 331) d_Law_main_330 rfl rfl ?_
      refine w_iconst (q := 332) (v := 0) d_Law_main_331 rfl (by decide) ?_
      obtain ⟨v8, hv, h⟩ := bnd h
      obtain ⟨hi, hv⟩ := rd_ok hv
      refine w_lald (q := 333) d_Law_main_332 rfl l_78.2 l_78.1 hi ?_
      rw [hv]
      refine w_iload (q := 335) d_Law_main_333 rfl rfl ?_
      refine w_i2l (q := 336) d_Law_main_335 rfl ?_
      refine w_lcmp (q := 337) d_Law_main_336 rfl ?_
      by_cases c9 : (lg_cmp v8.toInt64 v4.1.toInt64) = 0
      · rw [if_pos c9] at h
        refine w_if_eq_t (q := 342) d_Law_main_337 rfl c9 ?_
        refine w_goto (q := 2313) d_Law_main_342 rfl ?_
        cases h
        refine w_ls (ls' := [some (.ref 2097152), some (.ref 0), some (.ref 54), some (.ref 78), some (.int i), none, none]) (And.intro rfl (And.intro rfl (And.intro rfl (And.intro rfl (And.intro rfl trivial))))) ?_
        exact hr
      · rw [if_neg c9] at h
        refine w_if_eq_f (q := 340) d_Law_main_337 342 rfl rfl c9 ?_
        refine w_iconst (q := 341) (v := 0) d_Law_main_340 rfl (by decide) ?_
        cases h
        exact hr.elim
    · rw [if_neg c7] at h
      refine w_if_ne_t (q := 342) d_Law_main_327 rfl c7 ?_
      refine w_goto (q := 2313) d_Law_main_342 rfl ?_
      cases h
      refine w_ls (ls' := [some (.ref 2097152), some (.ref 0), some (.ref 54), some (.ref 78), some (.int i), none, none]) (And.intro rfl (And.intro rfl (And.intro rfl (And.intro rfl (And.intro rfl trivial))))) ?_
      exact hr
  · rw [if_neg c6] at h
    refine w_icmp_eq_f (q := 323) d_Law_main_320 325 rfl rfl c6 ?_
    refine w_iconst (q := 324) (v := 0) d_Law_main_323 rfl (by decide) ?_
    cases h
    exact hr.elim
def sp_case_2 (F L : Nat) (xs : Nat → Int32) (i : Int32) (g : Mem) : Option (Mem ⊕ Unit) := (sp_Hall_fault g).bind fun v1 => (sp_Model_fault g).bind fun v2 => if v1 = v2.1 then some (.inl v2.2) else some (.inr ())
theorem ok_case_2 {γ : GG} {F : Nat} {i : Int32} {g : Mem} {b : Nat × Nat} {Φ : PO} {r : Mem ⊕ Unit} (h : sp_case_2 F (gS γ).2.1 (gS γ).2.2 i g = some r) (hr : RQ (fun g9 => WA γ M_Law_main 130 2313 (lwL i) [] SH g9 false b Φ) (fun _ => False) r) : WA γ M_Law_main 130 345 (lwL i) [] SH g false (1 + b.1, 6 + b.2) Φ := by
  unfold sp_case_2 at h
  refine w_aload_n (q := 346) d_Law_main_345 rfl rfl ?_
  obtain ⟨v1, hv, h⟩ := bnd h
  refine w_callVi (q := 349) (M' := M_Hall_fault) (n' := 0) (k := 0) (As := []) (sh' := SH) (b1 := (0, 0)) d_Law_main_346 rfl mw_Hall_fault (by decide) (by decide) ml_Law_126 (by decide) s_0 (by decide) rfl rfl rfl (leb rfl) (bz _) (fun _ => rfl) (ok_Hall_fault hv) ?_
  refine w_aload_n (q := 350) d_Law_main_349 rfl rfl ?_
  obtain ⟨v2, hv, h⟩ := bnd h
  refine w_callVi (q := 353) (M' := M_Model_fault) (n' := 0) (k := 54) (As := []) (sh' := SH) (b1 := (0, 0)) d_Law_main_350 rfl mw_Model_fault (by decide) (by decide) ml_Law_129 (by decide) s_54 (by decide) rfl rfl rfl (leb rfl) (bz _) (fun _ => rfl) (ok_Model_fault hv) ?_
  by_cases c3 : v1 = v2.1
  · rw [if_pos c3] at h
    refine w_icmp_eq_t (q := 2313) d_Law_main_353 rfl c3 ?_
    cases h
    refine w_ls (ls' := [some (.ref 2097152), some (.ref 0), some (.ref 54), some (.ref 78), some (.int i), none, none]) (And.intro rfl (And.intro rfl (And.intro rfl (And.intro rfl (And.intro rfl trivial))))) ?_
    exact w_wide (Nat.le_add_left _ _) (Nat.le_add_left _ _) hr
  · rw [if_neg c3] at h
    refine w_icmp_eq_f (q := 356) d_Law_main_353 2313 rfl rfl c3 ?_
    refine w_iconst (q := 357) (v := 0) d_Law_main_356 rfl (by decide) ?_
    cases h
    exact hr.elim
def sp_case_3 (F L : Nat) (xs : Nat → Int32) (i : Int32) (g : Mem) : Option (Mem ⊕ Unit) := (rx L xs (i + 1)).bind fun v1 => (sp_Law_count F v1 g).bind fun v2 => (rx L xs (i + 1)).bind fun v3 => (sp_Model_count F v3 v2.2).bind fun v4 => (sp_Model_thrown v4.2).bind fun v5 => if v5 = v2.1 then if v2.1 = 0 then (rd v4.2 78 1 0).bind fun v8 => if (lg_cmp v8.toInt64 v4.1.toInt64) = 0 then some (.inl v4.2) else some (.inr ()) else some (.inl v4.2) else some (.inr ())
theorem ok_case_3 {γ : GG} {F : Nat} {i : Int32} {g : Mem} {b : Nat × Nat} {Φ : PO} {r : Mem ⊕ Unit} (h : sp_case_3 F (gS γ).2.1 (gS γ).2.2 i g = some r) (hr : RQ (fun g9 => WA γ M_Law_main 130 2313 (lwL i) [] SH g9 false b Φ) (fun _ => False) r) : WA γ M_Law_main 130 358 (lwL i) [] SH g false (1 + b.1, 6 + b.2) Φ := by
  unfold sp_case_3 at h
  refine w_aload_n (q := 359) d_Law_main_358 rfl rfl ?_
  refine w_aload_n (q := 360) d_Law_main_359 rfl rfl ?_
  refine w_iload (q := 362) d_Law_main_360 rfl rfl ?_
  refine w_iconst (q := 363) (v := 1) d_Law_main_362 rfl (by decide) ?_
  refine w_iadd (q := 364) d_Law_main_363 rfl ?_
  obtain ⟨v1, hv, h⟩ := bnd h
  obtain ⟨hi, hv⟩ := rx_ok hv
  refine w_sld (q := 365) d_Law_main_364 rfl hi ?_
  rw [hv]
  refine w_aload_n (q := 366) d_Law_main_365 rfl rfl ?_
  obtain ⟨v2, hv, h⟩ := bnd h
  refine w_callHi (q := 369) (M' := M_Law_count) (n' := 4) (As := [.ref 0, .int v1, .ref 78]) (sh' := SH) (b1 := (1, 6)) (b2 := b) d_Law_main_366 rfl mw_Law_count (by decide) (by decide) ml_Law_130 rfl rfl (leb rfl) rfl (fun h9 => absurd h9 (by decide)) (ok_Law_count hv) ?_
  refine w_istore (q := 371) (ls' := [some (.ref 2097152), some (.ref 0), some (.ref 54), some (.ref 78), some (.int i), some (.int v2.1), none]) d_Law_main_369 rfl (by decide) rfl rfl ?_
  refine w_aload_n (q := 372) d_Law_main_371 rfl rfl ?_
  refine w_aload_n (q := 373) d_Law_main_372 rfl rfl ?_
  refine w_iload (q := 375) d_Law_main_373 rfl rfl ?_
  refine w_iconst (q := 376) (v := 1) d_Law_main_375 rfl (by decide) ?_
  refine w_iadd (q := 377) d_Law_main_376 rfl ?_
  obtain ⟨v3, hv, h⟩ := bnd h
  obtain ⟨hi, hv⟩ := rx_ok hv
  refine w_sld (q := 378) d_Law_main_377 rfl hi ?_
  rw [hv]
  obtain ⟨v4, hv, h⟩ := bnd h
  refine w_callVi (q := 381) (M' := M_Model_count) (n' := 3) (k := 54) (As := [.int v3]) (sh' := SH) (b1 := (0, 0)) d_Law_main_378 rfl mw_Model_count (by decide) (by decide) ml_Law_132 (by decide) s_54 (by decide) rfl rfl rfl (leb rfl) (bz _) (fun _ => rfl) (ok_Model_count hv) ?_
  refine w_istore (q := 383) (ls' := [some (.ref 2097152), some (.ref 0), some (.ref 54), some (.ref 78), some (.int i), some (.int v2.1), some (.int v4.1)]) d_Law_main_381 rfl (by decide) rfl rfl ?_
  refine w_aload_n (q := 384) d_Law_main_383 rfl rfl ?_
  obtain ⟨v5, hv, h⟩ := bnd h
  refine w_callVi (q := 387) (M' := M_Model_thrown) (n' := 0) (k := 54) (As := []) (sh' := SH) (b1 := (0, 0)) d_Law_main_384 rfl mw_Model_thrown (by decide) (by decide) ml_Law_122 (by decide) s_54 (by decide) rfl rfl rfl (leb rfl) (bz _) (fun _ => rfl) (ok_Model_thrown hv) ?_
  refine w_iload (q := 389) d_Law_main_387 rfl rfl ?_
  by_cases c6 : v5 = v2.1
  · rw [if_pos c6] at h
    refine w_icmp_eq_t (q := 394) d_Law_main_389 rfl c6 ?_
    refine w_iload (q := 396) d_Law_main_394 rfl rfl ?_
    by_cases c7 : v2.1 = 0
    · rw [if_pos c7] at h
      refine w_if_ne_f (q := 399) d_Law_main_396 411 rfl rfl c7 ?_
      refine w_aload_n (q := 400) d_Law_main_399 rfl rfl ?_
      refine w_iconst (q := 401) (v := 0) d_Law_main_400 rfl (by decide) ?_
      obtain ⟨v8, hv, h⟩ := bnd h
      obtain ⟨hi, hv⟩ := rd_ok hv
      refine w_lald (q := 402) d_Law_main_401 rfl l_78.2 l_78.1 hi ?_
      rw [hv]
      refine w_iload (q := 404) d_Law_main_402 rfl rfl ?_
      refine w_i2l (q := 405) d_Law_main_404 rfl ?_
      refine w_lcmp (q := 406) d_Law_main_405 rfl ?_
      by_cases c9 : (lg_cmp v8.toInt64 v4.1.toInt64) = 0
      · rw [if_pos c9] at h
        refine w_if_eq_t (q := 411) d_Law_main_406 rfl c9 ?_
        refine w_goto (q := 2313) d_Law_main_411 rfl ?_
        cases h
        refine w_ls (ls' := [some (.ref 2097152), some (.ref 0), some (.ref 54), some (.ref 78), some (.int i), none, none]) (And.intro rfl (And.intro rfl (And.intro rfl (And.intro rfl (And.intro rfl trivial))))) ?_
        exact hr
      · rw [if_neg c9] at h
        refine w_if_eq_f (q := 409) d_Law_main_406 411 rfl rfl c9 ?_
        refine w_iconst (q := 410) (v := 0) d_Law_main_409 rfl (by decide) ?_
        cases h
        exact hr.elim
    · rw [if_neg c7] at h
      refine w_if_ne_t (q := 411) d_Law_main_396 rfl c7 ?_
      refine w_goto (q := 2313) d_Law_main_411 rfl ?_
      cases h
      refine w_ls (ls' := [some (.ref 2097152), some (.ref 0), some (.ref 54), some (.ref 78), some (.int i), none, none]) (And.intro rfl (And.intro rfl (And.intro rfl (And.intro rfl (And.intro rfl trivial))))) ?_
      exact hr
  · rw [if_neg c6] at h
    refine w_icmp_eq_f (q := 392) d_Law_main_389 394 rfl rfl c6 ?_
    refine w_iconst (q := 393) (v := 0) d_Law_main_392 rfl (by decide) ?_
    cases h
    exact hr.elim
def sp_case_4 (F L : Nat) (xs : Nat → Int32) (i : Int32) (g : Mem) : Option (Mem ⊕ Unit) := (rx L xs (i + 1)).bind fun v1 => (rx L xs (i + 2)).bind fun v2 => (sp_Law_monk F v1 v2 g).bind fun v3 => (rx L xs (i + 1)).bind fun v4 => (rx L xs (i + 2)).bind fun v5 => (sp_Model_monk F v4 v5 v3.2).bind fun v6 => (sp_Model_thrown v6.2).bind fun v7 => if v7 = v3.1 then if v3.1 = 0 then (rd v6.2 78 1 0).bind fun v10 => if (lg_cmp v10.toInt64 v6.1.toInt64) = 0 then some (.inl v6.2) else some (.inr ()) else some (.inl v6.2) else some (.inr ())
theorem ok_case_4 {γ : GG} {F : Nat} {i : Int32} {g : Mem} {b : Nat × Nat} {Φ : PO} {r : Mem ⊕ Unit} (h : sp_case_4 F (gS γ).2.1 (gS γ).2.2 i g = some r) (hr : RQ (fun g9 => WA γ M_Law_main 130 2313 (lwL i) [] SH g9 false b Φ) (fun _ => False) r) : WA γ M_Law_main 130 414 (lwL i) [] SH g false (1 + b.1, 6 + b.2) Φ := by
  unfold sp_case_4 at h
  refine w_aload_n (q := 415) d_Law_main_414 rfl rfl ?_
  refine w_aload_n (q := 416) d_Law_main_415 rfl rfl ?_
  refine w_iload (q := 418) d_Law_main_416 rfl rfl ?_
  refine w_iconst (q := 419) (v := 1) d_Law_main_418 rfl (by decide) ?_
  refine w_iadd (q := 420) d_Law_main_419 rfl ?_
  obtain ⟨v1, hv, h⟩ := bnd h
  obtain ⟨hi, hv⟩ := rx_ok hv
  refine w_sld (q := 421) d_Law_main_420 rfl hi ?_
  rw [hv]
  refine w_aload_n (q := 422) d_Law_main_421 rfl rfl ?_
  refine w_iload (q := 424) d_Law_main_422 rfl rfl ?_
  refine w_iconst (q := 425) (v := 2) d_Law_main_424 rfl (by decide) ?_
  refine w_iadd (q := 426) d_Law_main_425 rfl ?_
  obtain ⟨v2, hv, h⟩ := bnd h
  obtain ⟨hi, hv⟩ := rx_ok hv
  refine w_sld (q := 427) d_Law_main_426 rfl hi ?_
  rw [hv]
  refine w_aload_n (q := 428) d_Law_main_427 rfl rfl ?_
  obtain ⟨v3, hv, h⟩ := bnd h
  refine w_callHi (q := 431) (M' := M_Law_monk) (n' := 4) (As := [.ref 0, .int v1, .int v2, .ref 78]) (sh' := SH) (b1 := (1, 6)) (b2 := b) d_Law_main_428 rfl mw_Law_monk (by decide) (by decide) ml_Law_133 rfl rfl (leb rfl) rfl (fun h9 => absurd h9 (by decide)) (ok_Law_monk hv) ?_
  refine w_istore (q := 433) (ls' := [some (.ref 2097152), some (.ref 0), some (.ref 54), some (.ref 78), some (.int i), some (.int v3.1), none]) d_Law_main_431 rfl (by decide) rfl rfl ?_
  refine w_aload_n (q := 434) d_Law_main_433 rfl rfl ?_
  refine w_aload_n (q := 435) d_Law_main_434 rfl rfl ?_
  refine w_iload (q := 437) d_Law_main_435 rfl rfl ?_
  refine w_iconst (q := 438) (v := 1) d_Law_main_437 rfl (by decide) ?_
  refine w_iadd (q := 439) d_Law_main_438 rfl ?_
  obtain ⟨v4, hv, h⟩ := bnd h
  obtain ⟨hi, hv⟩ := rx_ok hv
  refine w_sld (q := 440) d_Law_main_439 rfl hi ?_
  rw [hv]
  refine w_aload_n (q := 441) d_Law_main_440 rfl rfl ?_
  refine w_iload (q := 443) d_Law_main_441 rfl rfl ?_
  refine w_iconst (q := 444) (v := 2) d_Law_main_443 rfl (by decide) ?_
  refine w_iadd (q := 445) d_Law_main_444 rfl ?_
  obtain ⟨v5, hv, h⟩ := bnd h
  obtain ⟨hi, hv⟩ := rx_ok hv
  refine w_sld (q := 446) d_Law_main_445 rfl hi ?_
  rw [hv]
  obtain ⟨v6, hv, h⟩ := bnd h
  refine w_callVi (q := 449) (M' := M_Model_monk) (n' := 4) (k := 54) (As := [.int v4, .int v5]) (sh' := SH) (b1 := (0, 0)) d_Law_main_446 rfl mw_Model_monk (by decide) (by decide) ml_Law_136 (by decide) s_54 (by decide) rfl rfl rfl (leb rfl) (bz _) (fun _ => rfl) (ok_Model_monk hv) ?_
  refine w_istore (q := 451) (ls' := [some (.ref 2097152), some (.ref 0), some (.ref 54), some (.ref 78), some (.int i), some (.int v3.1), some (.int v6.1)]) d_Law_main_449 rfl (by decide) rfl rfl ?_
  refine w_aload_n (q := 452) d_Law_main_451 rfl rfl ?_
  obtain ⟨v7, hv, h⟩ := bnd h
  refine w_callVi (q := 455) (M' := M_Model_thrown) (n' := 0) (k := 54) (As := []) (sh' := SH) (b1 := (0, 0)) d_Law_main_452 rfl mw_Model_thrown (by decide) (by decide) ml_Law_122 (by decide) s_54 (by decide) rfl rfl rfl (leb rfl) (bz _) (fun _ => rfl) (ok_Model_thrown hv) ?_
  refine w_iload (q := 457) d_Law_main_455 rfl rfl ?_
  by_cases c8 : v7 = v3.1
  · rw [if_pos c8] at h
    refine w_icmp_eq_t (q := 462) d_Law_main_457 rfl c8 ?_
    refine w_iload (q := 464) d_Law_main_462 rfl rfl ?_
    by_cases c9 : v3.1 = 0
    · rw [if_pos c9] at h
      refine w_if_ne_f (q := 467) d_Law_main_464 479 rfl rfl c9 ?_
      refine w_aload_n (q := 468) d_Law_main_467 rfl rfl ?_
      refine w_iconst (q := 469) (v := 0) d_Law_main_468 rfl (by decide) ?_
      obtain ⟨v10, hv, h⟩ := bnd h
      obtain ⟨hi, hv⟩ := rd_ok hv
      refine w_lald (q := 470) d_Law_main_469 rfl l_78.2 l_78.1 hi ?_
      rw [hv]
      refine w_iload (q := 472) d_Law_main_470 rfl rfl ?_
      refine w_i2l (q := 473) d_Law_main_472 rfl ?_
      refine w_lcmp (q := 474) d_Law_main_473 rfl ?_
      by_cases c11 : (lg_cmp v10.toInt64 v6.1.toInt64) = 0
      · rw [if_pos c11] at h
        refine w_if_eq_t (q := 479) d_Law_main_474 rfl c11 ?_
        refine w_goto (q := 2313) d_Law_main_479 rfl ?_
        cases h
        refine w_ls (ls' := [some (.ref 2097152), some (.ref 0), some (.ref 54), some (.ref 78), some (.int i), none, none]) (And.intro rfl (And.intro rfl (And.intro rfl (And.intro rfl (And.intro rfl trivial))))) ?_
        exact hr
      · rw [if_neg c11] at h
        refine w_if_eq_f (q := 477) d_Law_main_474 479 rfl rfl c11 ?_
        refine w_iconst (q := 478) (v := 0) d_Law_main_477 rfl (by decide) ?_
        cases h
        exact hr.elim
    · rw [if_neg c9] at h
      refine w_if_ne_t (q := 479) d_Law_main_464 rfl c9 ?_
      refine w_goto (q := 2313) d_Law_main_479 rfl ?_
      cases h
      refine w_ls (ls' := [some (.ref 2097152), some (.ref 0), some (.ref 54), some (.ref 78), some (.int i), none, none]) (And.intro rfl (And.intro rfl (And.intro rfl (And.intro rfl (And.intro rfl trivial))))) ?_
      exact hr
  · rw [if_neg c8] at h
    refine w_icmp_eq_f (q := 460) d_Law_main_457 462 rfl rfl c8 ?_
    refine w_iconst (q := 461) (v := 0) d_Law_main_460 rfl (by decide) ?_
    cases h
    exact hr.elim
def sp_case_5 (F L : Nat) (xs : Nat → Int32) (i : Int32) (g : Mem) : Option (Mem ⊕ Unit) := (rx L xs (i + 1)).bind fun v1 => (rx L xs (i + 2)).bind fun v2 => (sp_Law_entry v1 v2 g).bind fun v3 => (rx L xs (i + 1)).bind fun v4 => (rx L xs (i + 2)).bind fun v5 => (sp_Model_entry v4 v5 v3.2).bind fun v6 => (sp_Model_thrown v6.2).bind fun v7 => if v7 = v3.1 then if v3.1 = 0 then (rd v6.2 78 1 0).bind fun v10 => if (lg_cmp v10.toInt64 v6.1.toInt64) = 0 then some (.inl v6.2) else some (.inr ()) else some (.inl v6.2) else some (.inr ())
theorem ok_case_5 {γ : GG} {F : Nat} {i : Int32} {g : Mem} {b : Nat × Nat} {Φ : PO} {r : Mem ⊕ Unit} (h : sp_case_5 F (gS γ).2.1 (gS γ).2.2 i g = some r) (hr : RQ (fun g9 => WA γ M_Law_main 130 2313 (lwL i) [] SH g9 false b Φ) (fun _ => False) r) : WA γ M_Law_main 130 482 (lwL i) [] SH g false (1 + b.1, 6 + b.2) Φ := by
  unfold sp_case_5 at h
  refine w_aload_n (q := 483) d_Law_main_482 rfl rfl ?_
  refine w_aload_n (q := 484) d_Law_main_483 rfl rfl ?_
  refine w_iload (q := 486) d_Law_main_484 rfl rfl ?_
  refine w_iconst (q := 487) (v := 1) d_Law_main_486 rfl (by decide) ?_
  refine w_iadd (q := 488) d_Law_main_487 rfl ?_
  obtain ⟨v1, hv, h⟩ := bnd h
  obtain ⟨hi, hv⟩ := rx_ok hv
  refine w_sld (q := 489) d_Law_main_488 rfl hi ?_
  rw [hv]
  refine w_aload_n (q := 490) d_Law_main_489 rfl rfl ?_
  refine w_iload (q := 492) d_Law_main_490 rfl rfl ?_
  refine w_iconst (q := 493) (v := 2) d_Law_main_492 rfl (by decide) ?_
  refine w_iadd (q := 494) d_Law_main_493 rfl ?_
  obtain ⟨v2, hv, h⟩ := bnd h
  obtain ⟨hi, hv⟩ := rx_ok hv
  refine w_sld (q := 495) d_Law_main_494 rfl hi ?_
  rw [hv]
  refine w_aload_n (q := 496) d_Law_main_495 rfl rfl ?_
  obtain ⟨v3, hv, h⟩ := bnd h
  refine w_callHi (q := 499) (M' := M_Law_entry) (n' := 3) (As := [.ref 0, .int v1, .int v2, .ref 78]) (sh' := SH) (b1 := (1, 6)) (b2 := b) d_Law_main_496 rfl mw_Law_entry (by decide) (by decide) ml_Law_137 rfl rfl (leb rfl) rfl (fun h9 => absurd h9 (by decide)) (ok_Law_entry hv) ?_
  refine w_istore (q := 501) (ls' := [some (.ref 2097152), some (.ref 0), some (.ref 54), some (.ref 78), some (.int i), some (.int v3.1), none]) d_Law_main_499 rfl (by decide) rfl rfl ?_
  refine w_aload_n (q := 502) d_Law_main_501 rfl rfl ?_
  refine w_aload_n (q := 503) d_Law_main_502 rfl rfl ?_
  refine w_iload (q := 505) d_Law_main_503 rfl rfl ?_
  refine w_iconst (q := 506) (v := 1) d_Law_main_505 rfl (by decide) ?_
  refine w_iadd (q := 507) d_Law_main_506 rfl ?_
  obtain ⟨v4, hv, h⟩ := bnd h
  obtain ⟨hi, hv⟩ := rx_ok hv
  refine w_sld (q := 508) d_Law_main_507 rfl hi ?_
  rw [hv]
  refine w_aload_n (q := 509) d_Law_main_508 rfl rfl ?_
  refine w_iload (q := 511) d_Law_main_509 rfl rfl ?_
  refine w_iconst (q := 512) (v := 2) d_Law_main_511 rfl (by decide) ?_
  refine w_iadd (q := 513) d_Law_main_512 rfl ?_
  obtain ⟨v5, hv, h⟩ := bnd h
  obtain ⟨hi, hv⟩ := rx_ok hv
  refine w_sld (q := 514) d_Law_main_513 rfl hi ?_
  rw [hv]
  obtain ⟨v6, hv, h⟩ := bnd h
  refine w_callVi (q := 517) (M' := M_Model_entry) (n' := 3) (k := 54) (As := [.int v4, .int v5]) (sh' := SH) (b1 := (0, 0)) d_Law_main_514 rfl mw_Model_entry (by decide) (by decide) ml_Law_139 (by decide) s_54 (by decide) rfl rfl rfl (leb rfl) (bz _) (fun _ => rfl) (ok_Model_entry hv) ?_
  refine w_istore (q := 519) (ls' := [some (.ref 2097152), some (.ref 0), some (.ref 54), some (.ref 78), some (.int i), some (.int v3.1), some (.int v6.1)]) d_Law_main_517 rfl (by decide) rfl rfl ?_
  refine w_aload_n (q := 520) d_Law_main_519 rfl rfl ?_
  obtain ⟨v7, hv, h⟩ := bnd h
  refine w_callVi (q := 523) (M' := M_Model_thrown) (n' := 0) (k := 54) (As := []) (sh' := SH) (b1 := (0, 0)) d_Law_main_520 rfl mw_Model_thrown (by decide) (by decide) ml_Law_122 (by decide) s_54 (by decide) rfl rfl rfl (leb rfl) (bz _) (fun _ => rfl) (ok_Model_thrown hv) ?_
  refine w_iload (q := 525) d_Law_main_523 rfl rfl ?_
  by_cases c8 : v7 = v3.1
  · rw [if_pos c8] at h
    refine w_icmp_eq_t (q := 530) d_Law_main_525 rfl c8 ?_
    refine w_iload (q := 532) d_Law_main_530 rfl rfl ?_
    by_cases c9 : v3.1 = 0
    · rw [if_pos c9] at h
      refine w_if_ne_f (q := 535) d_Law_main_532 547 rfl rfl c9 ?_
      refine w_aload_n (q := 536) d_Law_main_535 rfl rfl ?_
      refine w_iconst (q := 537) (v := 0) d_Law_main_536 rfl (by decide) ?_
      obtain ⟨v10, hv, h⟩ := bnd h
      obtain ⟨hi, hv⟩ := rd_ok hv
      refine w_lald (q := 538) d_Law_main_537 rfl l_78.2 l_78.1 hi ?_
      rw [hv]
      refine w_iload (q := 540) d_Law_main_538 rfl rfl ?_
      refine w_i2l (q := 541) d_Law_main_540 rfl ?_
      refine w_lcmp (q := 542) d_Law_main_541 rfl ?_
      by_cases c11 : (lg_cmp v10.toInt64 v6.1.toInt64) = 0
      · rw [if_pos c11] at h
        refine w_if_eq_t (q := 547) d_Law_main_542 rfl c11 ?_
        refine w_goto (q := 2313) d_Law_main_547 rfl ?_
        cases h
        refine w_ls (ls' := [some (.ref 2097152), some (.ref 0), some (.ref 54), some (.ref 78), some (.int i), none, none]) (And.intro rfl (And.intro rfl (And.intro rfl (And.intro rfl (And.intro rfl trivial))))) ?_
        exact hr
      · rw [if_neg c11] at h
        refine w_if_eq_f (q := 545) d_Law_main_542 547 rfl rfl c11 ?_
        refine w_iconst (q := 546) (v := 0) d_Law_main_545 rfl (by decide) ?_
        cases h
        exact hr.elim
    · rw [if_neg c9] at h
      refine w_if_ne_t (q := 547) d_Law_main_532 rfl c9 ?_
      refine w_goto (q := 2313) d_Law_main_547 rfl ?_
      cases h
      refine w_ls (ls' := [some (.ref 2097152), some (.ref 0), some (.ref 54), some (.ref 78), some (.int i), none, none]) (And.intro rfl (And.intro rfl (And.intro rfl (And.intro rfl (And.intro rfl trivial))))) ?_
      exact hr
  · rw [if_neg c8] at h
    refine w_icmp_eq_f (q := 528) d_Law_main_525 530 rfl rfl c8 ?_
    refine w_iconst (q := 529) (v := 0) d_Law_main_528 rfl (by decide) ?_
    cases h
    exact hr.elim
def sp_case_6 (F L : Nat) (xs : Nat → Int32) (i : Int32) (g : Mem) : Option (Mem ⊕ Unit) := (rx L xs (i + 1)).bind fun v1 => (sp_Law_holders F v1 g).bind fun v2 => (rx L xs (i + 1)).bind fun v3 => (sp_Model_holders F v3 v2.2).bind fun v4 => (sp_Model_thrown v4.2).bind fun v5 => if v5 = v2.1 then if v2.1 = 0 then (rd v4.2 78 1 0).bind fun v8 => if (lg_cmp v8.toInt64 v4.1.toInt64) = 0 then some (.inl v4.2) else some (.inr ()) else some (.inl v4.2) else some (.inr ())
theorem ok_case_6 {γ : GG} {F : Nat} {i : Int32} {g : Mem} {b : Nat × Nat} {Φ : PO} {r : Mem ⊕ Unit} (h : sp_case_6 F (gS γ).2.1 (gS γ).2.2 i g = some r) (hr : RQ (fun g9 => WA γ M_Law_main 130 2313 (lwL i) [] SH g9 false b Φ) (fun _ => False) r) : WA γ M_Law_main 130 550 (lwL i) [] SH g false (1 + b.1, 6 + b.2) Φ := by
  unfold sp_case_6 at h
  refine w_aload_n (q := 551) d_Law_main_550 rfl rfl ?_
  refine w_aload_n (q := 552) d_Law_main_551 rfl rfl ?_
  refine w_iload (q := 554) d_Law_main_552 rfl rfl ?_
  refine w_iconst (q := 555) (v := 1) d_Law_main_554 rfl (by decide) ?_
  refine w_iadd (q := 556) d_Law_main_555 rfl ?_
  obtain ⟨v1, hv, h⟩ := bnd h
  obtain ⟨hi, hv⟩ := rx_ok hv
  refine w_sld (q := 557) d_Law_main_556 rfl hi ?_
  rw [hv]
  refine w_aload_n (q := 558) d_Law_main_557 rfl rfl ?_
  obtain ⟨v2, hv, h⟩ := bnd h
  refine w_callHi (q := 561) (M' := M_Law_holders) (n' := 3) (As := [.ref 0, .int v1, .ref 78]) (sh' := SH) (b1 := (1, 6)) (b2 := b) d_Law_main_558 rfl mw_Law_holders (by decide) (by decide) ml_Law_140 rfl rfl (leb rfl) rfl (fun h9 => absurd h9 (by decide)) (ok_Law_holders hv) ?_
  refine w_istore (q := 563) (ls' := [some (.ref 2097152), some (.ref 0), some (.ref 54), some (.ref 78), some (.int i), some (.int v2.1), none]) d_Law_main_561 rfl (by decide) rfl rfl ?_
  refine w_aload_n (q := 564) d_Law_main_563 rfl rfl ?_
  refine w_aload_n (q := 565) d_Law_main_564 rfl rfl ?_
  refine w_iload (q := 567) d_Law_main_565 rfl rfl ?_
  refine w_iconst (q := 568) (v := 1) d_Law_main_567 rfl (by decide) ?_
  refine w_iadd (q := 569) d_Law_main_568 rfl ?_
  obtain ⟨v3, hv, h⟩ := bnd h
  obtain ⟨hi, hv⟩ := rx_ok hv
  refine w_sld (q := 570) d_Law_main_569 rfl hi ?_
  rw [hv]
  obtain ⟨v4, hv, h⟩ := bnd h
  refine w_callVi (q := 573) (M' := M_Model_holders) (n' := 3) (k := 54) (As := [.int v3]) (sh' := SH) (b1 := (0, 0)) d_Law_main_570 rfl mw_Model_holders (by decide) (by decide) ml_Law_142 (by decide) s_54 (by decide) rfl rfl rfl (leb rfl) (bz _) (fun _ => rfl) (ok_Model_holders hv) ?_
  refine w_istore (q := 575) (ls' := [some (.ref 2097152), some (.ref 0), some (.ref 54), some (.ref 78), some (.int i), some (.int v2.1), some (.int v4.1)]) d_Law_main_573 rfl (by decide) rfl rfl ?_
  refine w_aload_n (q := 576) d_Law_main_575 rfl rfl ?_
  obtain ⟨v5, hv, h⟩ := bnd h
  refine w_callVi (q := 579) (M' := M_Model_thrown) (n' := 0) (k := 54) (As := []) (sh' := SH) (b1 := (0, 0)) d_Law_main_576 rfl mw_Model_thrown (by decide) (by decide) ml_Law_122 (by decide) s_54 (by decide) rfl rfl rfl (leb rfl) (bz _) (fun _ => rfl) (ok_Model_thrown hv) ?_
  refine w_iload (q := 581) d_Law_main_579 rfl rfl ?_
  by_cases c6 : v5 = v2.1
  · rw [if_pos c6] at h
    refine w_icmp_eq_t (q := 586) d_Law_main_581 rfl c6 ?_
    refine w_iload (q := 588) d_Law_main_586 rfl rfl ?_
    by_cases c7 : v2.1 = 0
    · rw [if_pos c7] at h
      refine w_if_ne_f (q := 591) d_Law_main_588 603 rfl rfl c7 ?_
      refine w_aload_n (q := 592) d_Law_main_591 rfl rfl ?_
      refine w_iconst (q := 593) (v := 0) d_Law_main_592 rfl (by decide) ?_
      obtain ⟨v8, hv, h⟩ := bnd h
      obtain ⟨hi, hv⟩ := rd_ok hv
      refine w_lald (q := 594) d_Law_main_593 rfl l_78.2 l_78.1 hi ?_
      rw [hv]
      refine w_iload (q := 596) d_Law_main_594 rfl rfl ?_
      refine w_i2l (q := 597) d_Law_main_596 rfl ?_
      refine w_lcmp (q := 598) d_Law_main_597 rfl ?_
      by_cases c9 : (lg_cmp v8.toInt64 v4.1.toInt64) = 0
      · rw [if_pos c9] at h
        refine w_if_eq_t (q := 603) d_Law_main_598 rfl c9 ?_
        refine w_goto (q := 2313) d_Law_main_603 rfl ?_
        cases h
        refine w_ls (ls' := [some (.ref 2097152), some (.ref 0), some (.ref 54), some (.ref 78), some (.int i), none, none]) (And.intro rfl (And.intro rfl (And.intro rfl (And.intro rfl (And.intro rfl trivial))))) ?_
        exact hr
      · rw [if_neg c9] at h
        refine w_if_eq_f (q := 601) d_Law_main_598 603 rfl rfl c9 ?_
        refine w_iconst (q := 602) (v := 0) d_Law_main_601 rfl (by decide) ?_
        cases h
        exact hr.elim
    · rw [if_neg c7] at h
      refine w_if_ne_t (q := 603) d_Law_main_588 rfl c7 ?_
      refine w_goto (q := 2313) d_Law_main_603 rfl ?_
      cases h
      refine w_ls (ls' := [some (.ref 2097152), some (.ref 0), some (.ref 54), some (.ref 78), some (.int i), none, none]) (And.intro rfl (And.intro rfl (And.intro rfl (And.intro rfl (And.intro rfl trivial))))) ?_
      exact hr
  · rw [if_neg c6] at h
    refine w_icmp_eq_f (q := 584) d_Law_main_581 586 rfl rfl c6 ?_
    refine w_iconst (q := 585) (v := 0) d_Law_main_584 rfl (by decide) ?_
    cases h
    exact hr.elim
def sp_case_7 (F L : Nat) (xs : Nat → Int32) (i : Int32) (g : Mem) : Option (Mem ⊕ Unit) := (rx L xs (i + 1)).bind fun v1 => (rx L xs (i + 2)).bind fun v2 => (sp_Law_may F v1 v2 g).bind fun v3 => (rx L xs (i + 1)).bind fun v4 => (rx L xs (i + 2)).bind fun v5 => (sp_Model_may F v4 v5 v3.2).bind fun v6 => (sp_Model_thrown v6.2).bind fun v7 => if v7 = v3.1 then if v3.1 = 0 then (rd v6.2 78 1 0).bind fun v10 => if v6.1 = 0 then if (lg_cmp v10.toInt64 0) = 0 then some (.inl v6.2) else some (.inr ()) else if (lg_cmp v10.toInt64 1) = 0 then some (.inl v6.2) else some (.inr ()) else some (.inl v6.2) else some (.inr ())
theorem ok_case_7 {γ : GG} {F : Nat} {i : Int32} {g : Mem} {b : Nat × Nat} {Φ : PO} {r : Mem ⊕ Unit} (h : sp_case_7 F (gS γ).2.1 (gS γ).2.2 i g = some r) (hr : RQ (fun g9 => WA γ M_Law_main 130 2313 (lwL i) [] SH g9 false b Φ) (fun _ => False) r) : WA γ M_Law_main 130 606 (lwL i) [] SH g false (1 + b.1, 6 + b.2) Φ := by
  unfold sp_case_7 at h
  refine w_aload_n (q := 607) d_Law_main_606 rfl rfl ?_
  refine w_aload_n (q := 608) d_Law_main_607 rfl rfl ?_
  refine w_iload (q := 610) d_Law_main_608 rfl rfl ?_
  refine w_iconst (q := 611) (v := 1) d_Law_main_610 rfl (by decide) ?_
  refine w_iadd (q := 612) d_Law_main_611 rfl ?_
  obtain ⟨v1, hv, h⟩ := bnd h
  obtain ⟨hi, hv⟩ := rx_ok hv
  refine w_sld (q := 613) d_Law_main_612 rfl hi ?_
  rw [hv]
  refine w_aload_n (q := 614) d_Law_main_613 rfl rfl ?_
  refine w_iload (q := 616) d_Law_main_614 rfl rfl ?_
  refine w_iconst (q := 617) (v := 2) d_Law_main_616 rfl (by decide) ?_
  refine w_iadd (q := 618) d_Law_main_617 rfl ?_
  obtain ⟨v2, hv, h⟩ := bnd h
  obtain ⟨hi, hv⟩ := rx_ok hv
  refine w_sld (q := 619) d_Law_main_618 rfl hi ?_
  rw [hv]
  refine w_aload_n (q := 620) d_Law_main_619 rfl rfl ?_
  obtain ⟨v3, hv, h⟩ := bnd h
  refine w_callHi (q := 623) (M' := M_Law_may) (n' := 5) (As := [.ref 0, .int v1, .int v2, .ref 78]) (sh' := SH) (b1 := (1, 6)) (b2 := b) d_Law_main_620 rfl mw_Law_may (by decide) (by decide) ml_Law_143 rfl rfl (leb rfl) rfl (fun h9 => absurd h9 (by decide)) (ok_Law_may hv) ?_
  refine w_istore (q := 625) (ls' := [some (.ref 2097152), some (.ref 0), some (.ref 54), some (.ref 78), some (.int i), some (.int v3.1), none]) d_Law_main_623 rfl (by decide) rfl rfl ?_
  refine w_aload_n (q := 626) d_Law_main_625 rfl rfl ?_
  refine w_aload_n (q := 627) d_Law_main_626 rfl rfl ?_
  refine w_iload (q := 629) d_Law_main_627 rfl rfl ?_
  refine w_iconst (q := 630) (v := 1) d_Law_main_629 rfl (by decide) ?_
  refine w_iadd (q := 631) d_Law_main_630 rfl ?_
  obtain ⟨v4, hv, h⟩ := bnd h
  obtain ⟨hi, hv⟩ := rx_ok hv
  refine w_sld (q := 632) d_Law_main_631 rfl hi ?_
  rw [hv]
  refine w_aload_n (q := 633) d_Law_main_632 rfl rfl ?_
  refine w_iload (q := 635) d_Law_main_633 rfl rfl ?_
  refine w_iconst (q := 636) (v := 2) d_Law_main_635 rfl (by decide) ?_
  refine w_iadd (q := 637) d_Law_main_636 rfl ?_
  obtain ⟨v5, hv, h⟩ := bnd h
  obtain ⟨hi, hv⟩ := rx_ok hv
  refine w_sld (q := 638) d_Law_main_637 rfl hi ?_
  rw [hv]
  obtain ⟨v6, hv, h⟩ := bnd h
  refine w_callVi (q := 641) (M' := M_Model_may) (n' := 4) (k := 54) (As := [.int v4, .int v5]) (sh' := SH) (b1 := (0, 0)) d_Law_main_638 rfl mw_Model_may (by decide) (by decide) ml_Law_145 (by decide) s_54 (by decide) rfl rfl rfl (leb rfl) (bz _) (fun _ => rfl) (ok_Model_may hv) ?_
  refine w_istore (q := 643) (ls' := [some (.ref 2097152), some (.ref 0), some (.ref 54), some (.ref 78), some (.int i), some (.int v3.1), some (.int v6.1)]) d_Law_main_641 rfl (by decide) rfl rfl ?_
  refine w_aload_n (q := 644) d_Law_main_643 rfl rfl ?_
  obtain ⟨v7, hv, h⟩ := bnd h
  refine w_callVi (q := 647) (M' := M_Model_thrown) (n' := 0) (k := 54) (As := []) (sh' := SH) (b1 := (0, 0)) d_Law_main_644 rfl mw_Model_thrown (by decide) (by decide) ml_Law_122 (by decide) s_54 (by decide) rfl rfl rfl (leb rfl) (bz _) (fun _ => rfl) (ok_Model_thrown hv) ?_
  refine w_iload (q := 649) d_Law_main_647 rfl rfl ?_
  by_cases c8 : v7 = v3.1
  · rw [if_pos c8] at h
    refine w_icmp_eq_t (q := 654) d_Law_main_649 rfl c8 ?_
    refine w_iload (q := 656) d_Law_main_654 rfl rfl ?_
    by_cases c9 : v3.1 = 0
    · rw [if_pos c9] at h
      refine w_if_ne_f (q := 659) d_Law_main_656 678 rfl rfl c9 ?_
      refine w_aload_n (q := 660) d_Law_main_659 rfl rfl ?_
      refine w_iconst (q := 661) (v := 0) d_Law_main_660 rfl (by decide) ?_
      obtain ⟨v10, hv, h⟩ := bnd h
      obtain ⟨hi, hv⟩ := rd_ok hv
      refine w_lald (q := 662) d_Law_main_661 rfl l_78.2 l_78.1 hi ?_
      rw [hv]
      refine w_iload (q := 664) d_Law_main_662 rfl rfl ?_
      by_cases c11 : v6.1 = 0
      · rw [if_pos c11] at h
        refine w_if_eq_t (q := 671) d_Law_main_664 rfl c11 ?_
        refine w_lconst (q := 672) (v := 0) d_Law_main_671 rfl (by decide) ?_
        refine w_lcmp (q := 673) d_Law_main_672 rfl ?_
        by_cases c12 : (lg_cmp v10.toInt64 0) = 0
        · rw [if_pos c12] at h
          refine w_if_eq_t (q := 678) d_Law_main_673 rfl c12 ?_
          refine w_goto (q := 2313) d_Law_main_678 rfl ?_
          cases h
          refine w_ls (ls' := [some (.ref 2097152), some (.ref 0), some (.ref 54), some (.ref 78), some (.int i), none, none]) (And.intro rfl (And.intro rfl (And.intro rfl (And.intro rfl (And.intro rfl trivial))))) ?_
          exact hr
        · rw [if_neg c12] at h
          refine w_if_eq_f (q := 676) d_Law_main_673 678 rfl rfl c12 ?_
          refine w_iconst (q := 677) (v := 0) d_Law_main_676 rfl (by decide) ?_
          cases h
          exact hr.elim
      · rw [if_neg c11] at h
        refine w_if_eq_f (q := 667) d_Law_main_664 671 rfl rfl c11 ?_
        refine w_lconst (q := 668) (v := 1) d_Law_main_667 rfl (by decide) ?_
        refine w_goto (q := 672) d_Law_main_668 rfl ?_
        refine w_lcmp (q := 673) d_Law_main_672 rfl ?_
        by_cases c13 : (lg_cmp v10.toInt64 1) = 0
        · rw [if_pos c13] at h
          refine w_if_eq_t (q := 678) d_Law_main_673 rfl c13 ?_
          refine w_goto (q := 2313) d_Law_main_678 rfl ?_
          cases h
          refine w_ls (ls' := [some (.ref 2097152), some (.ref 0), some (.ref 54), some (.ref 78), some (.int i), none, none]) (And.intro rfl (And.intro rfl (And.intro rfl (And.intro rfl (And.intro rfl trivial))))) ?_
          exact hr
        · rw [if_neg c13] at h
          refine w_if_eq_f (q := 676) d_Law_main_673 678 rfl rfl c13 ?_
          refine w_iconst (q := 677) (v := 0) d_Law_main_676 rfl (by decide) ?_
          cases h
          exact hr.elim
    · rw [if_neg c9] at h
      refine w_if_ne_t (q := 678) d_Law_main_656 rfl c9 ?_
      refine w_goto (q := 2313) d_Law_main_678 rfl ?_
      cases h
      refine w_ls (ls' := [some (.ref 2097152), some (.ref 0), some (.ref 54), some (.ref 78), some (.int i), none, none]) (And.intro rfl (And.intro rfl (And.intro rfl (And.intro rfl (And.intro rfl trivial))))) ?_
      exact hr
  · rw [if_neg c8] at h
    refine w_icmp_eq_f (q := 652) d_Law_main_649 654 rfl rfl c8 ?_
    refine w_iconst (q := 653) (v := 0) d_Law_main_652 rfl (by decide) ?_
    cases h
    exact hr.elim
def sp_case_8 (F L : Nat) (xs : Nat → Int32) (i : Int32) (g : Mem) : Option (Mem ⊕ Unit) := (rx L xs (i + 1)).bind fun v1 => (sp_Hall_years F v1 g).bind fun v2 => (rx L xs (i + 1)).bind fun v3 => (sp_Model_years F v3 v2.2).bind fun v4 => if v2.1 = v4.1 then some (.inl v4.2) else some (.inr ())
theorem ok_case_8 {γ : GG} {F : Nat} {i : Int32} {g : Mem} {b : Nat × Nat} {Φ : PO} {r : Mem ⊕ Unit} (h : sp_case_8 F (gS γ).2.1 (gS γ).2.2 i g = some r) (hr : RQ (fun g9 => WA γ M_Law_main 130 2313 (lwL i) [] SH g9 false b Φ) (fun _ => False) r) : WA γ M_Law_main 130 681 (lwL i) [] SH g false (1 + b.1, 6 + b.2) Φ := by
  unfold sp_case_8 at h
  refine w_aload_n (q := 682) d_Law_main_681 rfl rfl ?_
  refine w_aload_n (q := 683) d_Law_main_682 rfl rfl ?_
  refine w_iload (q := 685) d_Law_main_683 rfl rfl ?_
  refine w_iconst (q := 686) (v := 1) d_Law_main_685 rfl (by decide) ?_
  refine w_iadd (q := 687) d_Law_main_686 rfl ?_
  obtain ⟨v1, hv, h⟩ := bnd h
  obtain ⟨hi, hv⟩ := rx_ok hv
  refine w_sld (q := 688) d_Law_main_687 rfl hi ?_
  rw [hv]
  obtain ⟨v2, hv, h⟩ := bnd h
  refine w_callVi (q := 691) (M' := M_Hall_years) (n' := 5) (k := 0) (As := [.int v1]) (sh' := SH) (b1 := (0, 0)) d_Law_main_688 rfl mw_Hall_years (by decide) (by decide) ml_Law_146 (by decide) s_0 (by decide) rfl rfl rfl (leb rfl) (bz _) (fun _ => rfl) (ok_Hall_years hv) ?_
  refine w_aload_n (q := 692) d_Law_main_691 rfl rfl ?_
  refine w_aload_n (q := 693) d_Law_main_692 rfl rfl ?_
  refine w_iload (q := 695) d_Law_main_693 rfl rfl ?_
  refine w_iconst (q := 696) (v := 1) d_Law_main_695 rfl (by decide) ?_
  refine w_iadd (q := 697) d_Law_main_696 rfl ?_
  obtain ⟨v3, hv, h⟩ := bnd h
  obtain ⟨hi, hv⟩ := rx_ok hv
  refine w_sld (q := 698) d_Law_main_697 rfl hi ?_
  rw [hv]
  obtain ⟨v4, hv, h⟩ := bnd h
  refine w_callVi (q := 701) (M' := M_Model_years) (n' := 5) (k := 54) (As := [.int v3]) (sh' := SH) (b1 := (0, 0)) d_Law_main_698 rfl mw_Model_years (by decide) (by decide) ml_Law_149 (by decide) s_54 (by decide) rfl rfl rfl (leb rfl) (bz _) (fun _ => rfl) (ok_Model_years hv) ?_
  by_cases c5 : v2.1 = v4.1
  · rw [if_pos c5] at h
    refine w_icmp_eq_t (q := 2313) d_Law_main_701 rfl c5 ?_
    cases h
    refine w_ls (ls' := [some (.ref 2097152), some (.ref 0), some (.ref 54), some (.ref 78), some (.int i), none, none]) (And.intro rfl (And.intro rfl (And.intro rfl (And.intro rfl (And.intro rfl trivial))))) ?_
    exact w_wide (Nat.le_add_left _ _) (Nat.le_add_left _ _) hr
  · rw [if_neg c5] at h
    refine w_icmp_eq_f (q := 704) d_Law_main_701 2313 rfl rfl c5 ?_
    refine w_iconst (q := 705) (v := 0) d_Law_main_704 rfl (by decide) ?_
    cases h
    exact hr.elim
def sp_case_9 (F L : Nat) (xs : Nat → Int32) (i : Int32) (g : Mem) : Option (Mem ⊕ Unit) := (rx L xs (i + 1)).bind fun v1 => (rx L xs (i + 2)).bind fun v2 => (rx L xs (i + 3)).bind fun v3 => (rx L xs (i + 4)).bind fun v4 => (sp_Law_braid v1 v2 v3 v4 g).bind fun v5 => (rx L xs (i + 1)).bind fun v6 => (rx L xs (i + 2)).bind fun v7 => (rx L xs (i + 3)).bind fun v8 => (rx L xs (i + 4)).bind fun v9 => (sp_Model_braid F v6 v7 v8 v9 v5.2).bind fun v10 => (sp_Model_thrown v10.2).bind fun v11 => if v11 = v5.1 then if v5.1 = 0 then (rd v10.2 78 1 0).bind fun v14 => if (lg_cmp v14.toInt64 v10.1.toInt64) = 0 then some (.inl v10.2) else some (.inr ()) else some (.inl v10.2) else some (.inr ())
theorem ok_case_9 {γ : GG} {F : Nat} {i : Int32} {g : Mem} {b : Nat × Nat} {Φ : PO} {r : Mem ⊕ Unit} (h : sp_case_9 F (gS γ).2.1 (gS γ).2.2 i g = some r) (hr : RQ (fun g9 => WA γ M_Law_main 130 2313 (lwL i) [] SH g9 false b Φ) (fun _ => False) r) : WA γ M_Law_main 130 706 (lwL i) [] SH g false (1 + b.1, 6 + b.2) Φ := by
  unfold sp_case_9 at h
  refine w_aload_n (q := 707) d_Law_main_706 rfl rfl ?_
  refine w_aload_n (q := 708) d_Law_main_707 rfl rfl ?_
  refine w_iload (q := 710) d_Law_main_708 rfl rfl ?_
  refine w_iconst (q := 711) (v := 1) d_Law_main_710 rfl (by decide) ?_
  refine w_iadd (q := 712) d_Law_main_711 rfl ?_
  obtain ⟨v1, hv, h⟩ := bnd h
  obtain ⟨hi, hv⟩ := rx_ok hv
  refine w_sld (q := 713) d_Law_main_712 rfl hi ?_
  rw [hv]
  refine w_aload_n (q := 714) d_Law_main_713 rfl rfl ?_
  refine w_iload (q := 716) d_Law_main_714 rfl rfl ?_
  refine w_iconst (q := 717) (v := 2) d_Law_main_716 rfl (by decide) ?_
  refine w_iadd (q := 718) d_Law_main_717 rfl ?_
  obtain ⟨v2, hv, h⟩ := bnd h
  obtain ⟨hi, hv⟩ := rx_ok hv
  refine w_sld (q := 719) d_Law_main_718 rfl hi ?_
  rw [hv]
  refine w_aload_n (q := 720) d_Law_main_719 rfl rfl ?_
  refine w_iload (q := 722) d_Law_main_720 rfl rfl ?_
  refine w_iconst (q := 723) (v := 3) d_Law_main_722 rfl (by decide) ?_
  refine w_iadd (q := 724) d_Law_main_723 rfl ?_
  obtain ⟨v3, hv, h⟩ := bnd h
  obtain ⟨hi, hv⟩ := rx_ok hv
  refine w_sld (q := 725) d_Law_main_724 rfl hi ?_
  rw [hv]
  refine w_aload_n (q := 726) d_Law_main_725 rfl rfl ?_
  refine w_iload (q := 728) d_Law_main_726 rfl rfl ?_
  refine w_iconst (q := 729) (v := 4) d_Law_main_728 rfl (by decide) ?_
  refine w_iadd (q := 730) d_Law_main_729 rfl ?_
  obtain ⟨v4, hv, h⟩ := bnd h
  obtain ⟨hi, hv⟩ := rx_ok hv
  refine w_sld (q := 731) d_Law_main_730 rfl hi ?_
  rw [hv]
  refine w_aload_n (q := 732) d_Law_main_731 rfl rfl ?_
  obtain ⟨v5, hv, h⟩ := bnd h
  refine w_callHi (q := 735) (M' := M_Law_braid) (n' := 5) (As := [.ref 0, .int v1, .int v2, .int v3, .int v4, .ref 78]) (sh' := SH) (b1 := (1, 6)) (b2 := b) d_Law_main_732 rfl mw_Law_braid (by decide) (by decide) ml_Law_150 rfl rfl (leb rfl) rfl (fun h9 => absurd h9 (by decide)) (ok_Law_braid hv) ?_
  refine w_istore (q := 737) (ls' := [some (.ref 2097152), some (.ref 0), some (.ref 54), some (.ref 78), some (.int i), some (.int v5.1), none]) d_Law_main_735 rfl (by decide) rfl rfl ?_
  refine w_aload_n (q := 738) d_Law_main_737 rfl rfl ?_
  refine w_aload_n (q := 739) d_Law_main_738 rfl rfl ?_
  refine w_iload (q := 741) d_Law_main_739 rfl rfl ?_
  refine w_iconst (q := 742) (v := 1) d_Law_main_741 rfl (by decide) ?_
  refine w_iadd (q := 743) d_Law_main_742 rfl ?_
  obtain ⟨v6, hv, h⟩ := bnd h
  obtain ⟨hi, hv⟩ := rx_ok hv
  refine w_sld (q := 744) d_Law_main_743 rfl hi ?_
  rw [hv]
  refine w_aload_n (q := 745) d_Law_main_744 rfl rfl ?_
  refine w_iload (q := 747) d_Law_main_745 rfl rfl ?_
  refine w_iconst (q := 748) (v := 2) d_Law_main_747 rfl (by decide) ?_
  refine w_iadd (q := 749) d_Law_main_748 rfl ?_
  obtain ⟨v7, hv, h⟩ := bnd h
  obtain ⟨hi, hv⟩ := rx_ok hv
  refine w_sld (q := 750) d_Law_main_749 rfl hi ?_
  rw [hv]
  refine w_aload_n (q := 751) d_Law_main_750 rfl rfl ?_
  refine w_iload (q := 753) d_Law_main_751 rfl rfl ?_
  refine w_iconst (q := 754) (v := 3) d_Law_main_753 rfl (by decide) ?_
  refine w_iadd (q := 755) d_Law_main_754 rfl ?_
  obtain ⟨v8, hv, h⟩ := bnd h
  obtain ⟨hi, hv⟩ := rx_ok hv
  refine w_sld (q := 756) d_Law_main_755 rfl hi ?_
  rw [hv]
  refine w_aload_n (q := 757) d_Law_main_756 rfl rfl ?_
  refine w_iload (q := 759) d_Law_main_757 rfl rfl ?_
  refine w_iconst (q := 760) (v := 4) d_Law_main_759 rfl (by decide) ?_
  refine w_iadd (q := 761) d_Law_main_760 rfl ?_
  obtain ⟨v9, hv, h⟩ := bnd h
  obtain ⟨hi, hv⟩ := rx_ok hv
  refine w_sld (q := 762) d_Law_main_761 rfl hi ?_
  rw [hv]
  obtain ⟨v10, hv, h⟩ := bnd h
  refine w_callVi (q := 765) (M' := M_Model_braid) (n' := 2) (k := 54) (As := [.int v6, .int v7, .int v8, .int v9]) (sh' := SH) (b1 := (0, 0)) d_Law_main_762 rfl mw_Model_braid (by decide) (by decide) ml_Law_153 (by decide) s_54 (by decide) rfl rfl rfl (leb rfl) (bz _) (fun _ => rfl) (ok_Model_braid hv) ?_
  refine w_istore (q := 767) (ls' := [some (.ref 2097152), some (.ref 0), some (.ref 54), some (.ref 78), some (.int i), some (.int v5.1), some (.int v10.1)]) d_Law_main_765 rfl (by decide) rfl rfl ?_
  refine w_aload_n (q := 768) d_Law_main_767 rfl rfl ?_
  obtain ⟨v11, hv, h⟩ := bnd h
  refine w_callVi (q := 771) (M' := M_Model_thrown) (n' := 0) (k := 54) (As := []) (sh' := SH) (b1 := (0, 0)) d_Law_main_768 rfl mw_Model_thrown (by decide) (by decide) ml_Law_122 (by decide) s_54 (by decide) rfl rfl rfl (leb rfl) (bz _) (fun _ => rfl) (ok_Model_thrown hv) ?_
  refine w_iload (q := 773) d_Law_main_771 rfl rfl ?_
  by_cases c12 : v11 = v5.1
  · rw [if_pos c12] at h
    refine w_icmp_eq_t (q := 778) d_Law_main_773 rfl c12 ?_
    refine w_iload (q := 780) d_Law_main_778 rfl rfl ?_
    by_cases c13 : v5.1 = 0
    · rw [if_pos c13] at h
      refine w_if_ne_f (q := 783) d_Law_main_780 795 rfl rfl c13 ?_
      refine w_aload_n (q := 784) d_Law_main_783 rfl rfl ?_
      refine w_iconst (q := 785) (v := 0) d_Law_main_784 rfl (by decide) ?_
      obtain ⟨v14, hv, h⟩ := bnd h
      obtain ⟨hi, hv⟩ := rd_ok hv
      refine w_lald (q := 786) d_Law_main_785 rfl l_78.2 l_78.1 hi ?_
      rw [hv]
      refine w_iload (q := 788) d_Law_main_786 rfl rfl ?_
      refine w_i2l (q := 789) d_Law_main_788 rfl ?_
      refine w_lcmp (q := 790) d_Law_main_789 rfl ?_
      by_cases c15 : (lg_cmp v14.toInt64 v10.1.toInt64) = 0
      · rw [if_pos c15] at h
        refine w_if_eq_t (q := 795) d_Law_main_790 rfl c15 ?_
        refine w_goto (q := 2313) d_Law_main_795 rfl ?_
        cases h
        refine w_ls (ls' := [some (.ref 2097152), some (.ref 0), some (.ref 54), some (.ref 78), some (.int i), none, none]) (And.intro rfl (And.intro rfl (And.intro rfl (And.intro rfl (And.intro rfl trivial))))) ?_
        exact hr
      · rw [if_neg c15] at h
        refine w_if_eq_f (q := 793) d_Law_main_790 795 rfl rfl c15 ?_
        refine w_iconst (q := 794) (v := 0) d_Law_main_793 rfl (by decide) ?_
        cases h
        exact hr.elim
    · rw [if_neg c13] at h
      refine w_if_ne_t (q := 795) d_Law_main_780 rfl c13 ?_
      refine w_goto (q := 2313) d_Law_main_795 rfl ?_
      cases h
      refine w_ls (ls' := [some (.ref 2097152), some (.ref 0), some (.ref 54), some (.ref 78), some (.int i), none, none]) (And.intro rfl (And.intro rfl (And.intro rfl (And.intro rfl (And.intro rfl trivial))))) ?_
      exact hr
  · rw [if_neg c12] at h
    refine w_icmp_eq_f (q := 776) d_Law_main_773 778 rfl rfl c12 ?_
    refine w_iconst (q := 777) (v := 0) d_Law_main_776 rfl (by decide) ?_
    cases h
    exact hr.elim
def sp_case_10 (F L : Nat) (xs : Nat → Int32) (i : Int32) (g : Mem) : Option (Mem ⊕ Unit) := (rx L xs (i + 1)).bind fun v1 => (rx L xs (i + 2)).bind fun v2 => (sp_Law_copy F v1 v2 g).bind fun v3 => (rx L xs (i + 1)).bind fun v4 => (rx L xs (i + 2)).bind fun v5 => (sp_Model_copy F v4 v5 v3.2).bind fun v6 => (sp_Model_thrown v6.2).bind fun v7 => if v7 = v3.1 then if v3.1 = 0 then (rd v6.2 78 1 0).bind fun v10 => if (lg_cmp v10.toInt64 v6.1.toInt64) = 0 then some (.inl v6.2) else some (.inr ()) else some (.inl v6.2) else some (.inr ())
theorem ok_case_10 {γ : GG} {F : Nat} {i : Int32} {g : Mem} {b : Nat × Nat} {Φ : PO} {r : Mem ⊕ Unit} (h : sp_case_10 F (gS γ).2.1 (gS γ).2.2 i g = some r) (hr : RQ (fun g9 => WA γ M_Law_main 130 2313 (lwL i) [] SH g9 false b Φ) (fun _ => False) r) : WA γ M_Law_main 130 798 (lwL i) [] SH g false (1 + b.1, 6 + b.2) Φ := by
  unfold sp_case_10 at h
  refine w_aload_n (q := 799) d_Law_main_798 rfl rfl ?_
  refine w_aload_n (q := 800) d_Law_main_799 rfl rfl ?_
  refine w_iload (q := 802) d_Law_main_800 rfl rfl ?_
  refine w_iconst (q := 803) (v := 1) d_Law_main_802 rfl (by decide) ?_
  refine w_iadd (q := 804) d_Law_main_803 rfl ?_
  obtain ⟨v1, hv, h⟩ := bnd h
  obtain ⟨hi, hv⟩ := rx_ok hv
  refine w_sld (q := 805) d_Law_main_804 rfl hi ?_
  rw [hv]
  refine w_aload_n (q := 806) d_Law_main_805 rfl rfl ?_
  refine w_iload (q := 808) d_Law_main_806 rfl rfl ?_
  refine w_iconst (q := 809) (v := 2) d_Law_main_808 rfl (by decide) ?_
  refine w_iadd (q := 810) d_Law_main_809 rfl ?_
  obtain ⟨v2, hv, h⟩ := bnd h
  obtain ⟨hi, hv⟩ := rx_ok hv
  refine w_sld (q := 811) d_Law_main_810 rfl hi ?_
  rw [hv]
  refine w_aload_n (q := 812) d_Law_main_811 rfl rfl ?_
  obtain ⟨v3, hv, h⟩ := bnd h
  refine w_callHi (q := 815) (M' := M_Law_copy) (n' := 5) (As := [.ref 0, .int v1, .int v2, .ref 78]) (sh' := SH) (b1 := (1, 6)) (b2 := b) d_Law_main_812 rfl mw_Law_copy (by decide) (by decide) ml_Law_154 rfl rfl (leb rfl) rfl (fun h9 => absurd h9 (by decide)) (ok_Law_copy hv) ?_
  refine w_istore (q := 817) (ls' := [some (.ref 2097152), some (.ref 0), some (.ref 54), some (.ref 78), some (.int i), some (.int v3.1), none]) d_Law_main_815 rfl (by decide) rfl rfl ?_
  refine w_aload_n (q := 818) d_Law_main_817 rfl rfl ?_
  refine w_aload_n (q := 819) d_Law_main_818 rfl rfl ?_
  refine w_iload (q := 821) d_Law_main_819 rfl rfl ?_
  refine w_iconst (q := 822) (v := 1) d_Law_main_821 rfl (by decide) ?_
  refine w_iadd (q := 823) d_Law_main_822 rfl ?_
  obtain ⟨v4, hv, h⟩ := bnd h
  obtain ⟨hi, hv⟩ := rx_ok hv
  refine w_sld (q := 824) d_Law_main_823 rfl hi ?_
  rw [hv]
  refine w_aload_n (q := 825) d_Law_main_824 rfl rfl ?_
  refine w_iload (q := 827) d_Law_main_825 rfl rfl ?_
  refine w_iconst (q := 828) (v := 2) d_Law_main_827 rfl (by decide) ?_
  refine w_iadd (q := 829) d_Law_main_828 rfl ?_
  obtain ⟨v5, hv, h⟩ := bnd h
  obtain ⟨hi, hv⟩ := rx_ok hv
  refine w_sld (q := 830) d_Law_main_829 rfl hi ?_
  rw [hv]
  obtain ⟨v6, hv, h⟩ := bnd h
  refine w_callVi (q := 833) (M' := M_Model_copy) (n' := 3) (k := 54) (As := [.int v4, .int v5]) (sh' := SH) (b1 := (0, 0)) d_Law_main_830 rfl mw_Model_copy (by decide) (by decide) ml_Law_156 (by decide) s_54 (by decide) rfl rfl rfl (leb rfl) (bz _) (fun _ => rfl) (ok_Model_copy hv) ?_
  refine w_istore (q := 835) (ls' := [some (.ref 2097152), some (.ref 0), some (.ref 54), some (.ref 78), some (.int i), some (.int v3.1), some (.int v6.1)]) d_Law_main_833 rfl (by decide) rfl rfl ?_
  refine w_aload_n (q := 836) d_Law_main_835 rfl rfl ?_
  obtain ⟨v7, hv, h⟩ := bnd h
  refine w_callVi (q := 839) (M' := M_Model_thrown) (n' := 0) (k := 54) (As := []) (sh' := SH) (b1 := (0, 0)) d_Law_main_836 rfl mw_Model_thrown (by decide) (by decide) ml_Law_122 (by decide) s_54 (by decide) rfl rfl rfl (leb rfl) (bz _) (fun _ => rfl) (ok_Model_thrown hv) ?_
  refine w_iload (q := 841) d_Law_main_839 rfl rfl ?_
  by_cases c8 : v7 = v3.1
  · rw [if_pos c8] at h
    refine w_icmp_eq_t (q := 846) d_Law_main_841 rfl c8 ?_
    refine w_iload (q := 848) d_Law_main_846 rfl rfl ?_
    by_cases c9 : v3.1 = 0
    · rw [if_pos c9] at h
      refine w_if_ne_f (q := 851) d_Law_main_848 863 rfl rfl c9 ?_
      refine w_aload_n (q := 852) d_Law_main_851 rfl rfl ?_
      refine w_iconst (q := 853) (v := 0) d_Law_main_852 rfl (by decide) ?_
      obtain ⟨v10, hv, h⟩ := bnd h
      obtain ⟨hi, hv⟩ := rd_ok hv
      refine w_lald (q := 854) d_Law_main_853 rfl l_78.2 l_78.1 hi ?_
      rw [hv]
      refine w_iload (q := 856) d_Law_main_854 rfl rfl ?_
      refine w_i2l (q := 857) d_Law_main_856 rfl ?_
      refine w_lcmp (q := 858) d_Law_main_857 rfl ?_
      by_cases c11 : (lg_cmp v10.toInt64 v6.1.toInt64) = 0
      · rw [if_pos c11] at h
        refine w_if_eq_t (q := 863) d_Law_main_858 rfl c11 ?_
        refine w_goto (q := 2313) d_Law_main_863 rfl ?_
        cases h
        refine w_ls (ls' := [some (.ref 2097152), some (.ref 0), some (.ref 54), some (.ref 78), some (.int i), none, none]) (And.intro rfl (And.intro rfl (And.intro rfl (And.intro rfl (And.intro rfl trivial))))) ?_
        exact hr
      · rw [if_neg c11] at h
        refine w_if_eq_f (q := 861) d_Law_main_858 863 rfl rfl c11 ?_
        refine w_iconst (q := 862) (v := 0) d_Law_main_861 rfl (by decide) ?_
        cases h
        exact hr.elim
    · rw [if_neg c9] at h
      refine w_if_ne_t (q := 863) d_Law_main_848 rfl c9 ?_
      refine w_goto (q := 2313) d_Law_main_863 rfl ?_
      cases h
      refine w_ls (ls' := [some (.ref 2097152), some (.ref 0), some (.ref 54), some (.ref 78), some (.int i), none, none]) (And.intro rfl (And.intro rfl (And.intro rfl (And.intro rfl (And.intro rfl trivial))))) ?_
      exact hr
  · rw [if_neg c8] at h
    refine w_icmp_eq_f (q := 844) d_Law_main_841 846 rfl rfl c8 ?_
    refine w_iconst (q := 845) (v := 0) d_Law_main_844 rfl (by decide) ?_
    cases h
    exact hr.elim
def sp_case_11 (F L : Nat) (xs : Nat → Int32) (i : Int32) (g : Mem) : Option (Mem ⊕ Unit) := (rx L xs (i + 1)).bind fun v1 => (sp_Law_knot v1 g).bind fun v2 => (rx L xs (i + 1)).bind fun v3 => (sp_Model_knot F v3 v2.2).bind fun v4 => (sp_Model_thrown v4.2).bind fun v5 => if v5 = v2.1 then if v2.1 = 0 then (rd v4.2 78 1 0).bind fun v8 => if v4.1 = 0 then if (lg_cmp v8.toInt64 0) = 0 then some (.inl v4.2) else some (.inr ()) else if (lg_cmp v8.toInt64 1) = 0 then some (.inl v4.2) else some (.inr ()) else some (.inl v4.2) else some (.inr ())
theorem ok_case_11 {γ : GG} {F : Nat} {i : Int32} {g : Mem} {b : Nat × Nat} {Φ : PO} {r : Mem ⊕ Unit} (h : sp_case_11 F (gS γ).2.1 (gS γ).2.2 i g = some r) (hr : RQ (fun g9 => WA γ M_Law_main 130 2313 (lwL i) [] SH g9 false b Φ) (fun _ => False) r) : WA γ M_Law_main 130 866 (lwL i) [] SH g false (1 + b.1, 6 + b.2) Φ := by
  unfold sp_case_11 at h
  refine w_aload_n (q := 867) d_Law_main_866 rfl rfl ?_
  refine w_aload_n (q := 868) d_Law_main_867 rfl rfl ?_
  refine w_iload (q := 870) d_Law_main_868 rfl rfl ?_
  refine w_iconst (q := 871) (v := 1) d_Law_main_870 rfl (by decide) ?_
  refine w_iadd (q := 872) d_Law_main_871 rfl ?_
  obtain ⟨v1, hv, h⟩ := bnd h
  obtain ⟨hi, hv⟩ := rx_ok hv
  refine w_sld (q := 873) d_Law_main_872 rfl hi ?_
  rw [hv]
  refine w_aload_n (q := 874) d_Law_main_873 rfl rfl ?_
  obtain ⟨v2, hv, h⟩ := bnd h
  refine w_callHi (q := 877) (M' := M_Law_knot) (n' := 4) (As := [.ref 0, .int v1, .ref 78]) (sh' := SH) (b1 := (1, 6)) (b2 := b) d_Law_main_874 rfl mw_Law_knot (by decide) (by decide) ml_Law_157 rfl rfl (leb rfl) rfl (fun h9 => absurd h9 (by decide)) (ok_Law_knot hv) ?_
  refine w_istore (q := 879) (ls' := [some (.ref 2097152), some (.ref 0), some (.ref 54), some (.ref 78), some (.int i), some (.int v2.1), none]) d_Law_main_877 rfl (by decide) rfl rfl ?_
  refine w_aload_n (q := 880) d_Law_main_879 rfl rfl ?_
  refine w_aload_n (q := 881) d_Law_main_880 rfl rfl ?_
  refine w_iload (q := 883) d_Law_main_881 rfl rfl ?_
  refine w_iconst (q := 884) (v := 1) d_Law_main_883 rfl (by decide) ?_
  refine w_iadd (q := 885) d_Law_main_884 rfl ?_
  obtain ⟨v3, hv, h⟩ := bnd h
  obtain ⟨hi, hv⟩ := rx_ok hv
  refine w_sld (q := 886) d_Law_main_885 rfl hi ?_
  rw [hv]
  obtain ⟨v4, hv, h⟩ := bnd h
  refine w_callVi (q := 889) (M' := M_Model_knot) (n' := 3) (k := 54) (As := [.int v3]) (sh' := SH) (b1 := (0, 0)) d_Law_main_886 rfl mw_Model_knot (by decide) (by decide) ml_Law_159 (by decide) s_54 (by decide) rfl rfl rfl (leb rfl) (bz _) (fun _ => rfl) (ok_Model_knot hv) ?_
  refine w_istore (q := 891) (ls' := [some (.ref 2097152), some (.ref 0), some (.ref 54), some (.ref 78), some (.int i), some (.int v2.1), some (.int v4.1)]) d_Law_main_889 rfl (by decide) rfl rfl ?_
  refine w_aload_n (q := 892) d_Law_main_891 rfl rfl ?_
  obtain ⟨v5, hv, h⟩ := bnd h
  refine w_callVi (q := 895) (M' := M_Model_thrown) (n' := 0) (k := 54) (As := []) (sh' := SH) (b1 := (0, 0)) d_Law_main_892 rfl mw_Model_thrown (by decide) (by decide) ml_Law_122 (by decide) s_54 (by decide) rfl rfl rfl (leb rfl) (bz _) (fun _ => rfl) (ok_Model_thrown hv) ?_
  refine w_iload (q := 897) d_Law_main_895 rfl rfl ?_
  by_cases c6 : v5 = v2.1
  · rw [if_pos c6] at h
    refine w_icmp_eq_t (q := 902) d_Law_main_897 rfl c6 ?_
    refine w_iload (q := 904) d_Law_main_902 rfl rfl ?_
    by_cases c7 : v2.1 = 0
    · rw [if_pos c7] at h
      refine w_if_ne_f (q := 907) d_Law_main_904 926 rfl rfl c7 ?_
      refine w_aload_n (q := 908) d_Law_main_907 rfl rfl ?_
      refine w_iconst (q := 909) (v := 0) d_Law_main_908 rfl (by decide) ?_
      obtain ⟨v8, hv, h⟩ := bnd h
      obtain ⟨hi, hv⟩ := rd_ok hv
      refine w_lald (q := 910) d_Law_main_909 rfl l_78.2 l_78.1 hi ?_
      rw [hv]
      refine w_iload (q := 912) d_Law_main_910 rfl rfl ?_
      by_cases c9 : v4.1 = 0
      · rw [if_pos c9] at h
        refine w_if_eq_t (q := 919) d_Law_main_912 rfl c9 ?_
        refine w_lconst (q := 920) (v := 0) d_Law_main_919 rfl (by decide) ?_
        refine w_lcmp (q := 921) d_Law_main_920 rfl ?_
        by_cases c10 : (lg_cmp v8.toInt64 0) = 0
        · rw [if_pos c10] at h
          refine w_if_eq_t (q := 926) d_Law_main_921 rfl c10 ?_
          refine w_goto (q := 2313) d_Law_main_926 rfl ?_
          cases h
          refine w_ls (ls' := [some (.ref 2097152), some (.ref 0), some (.ref 54), some (.ref 78), some (.int i), none, none]) (And.intro rfl (And.intro rfl (And.intro rfl (And.intro rfl (And.intro rfl trivial))))) ?_
          exact hr
        · rw [if_neg c10] at h
          refine w_if_eq_f (q := 924) d_Law_main_921 926 rfl rfl c10 ?_
          refine w_iconst (q := 925) (v := 0) d_Law_main_924 rfl (by decide) ?_
          cases h
          exact hr.elim
      · rw [if_neg c9] at h
        refine w_if_eq_f (q := 915) d_Law_main_912 919 rfl rfl c9 ?_
        refine w_lconst (q := 916) (v := 1) d_Law_main_915 rfl (by decide) ?_
        refine w_goto (q := 920) d_Law_main_916 rfl ?_
        refine w_lcmp (q := 921) d_Law_main_920 rfl ?_
        by_cases c11 : (lg_cmp v8.toInt64 1) = 0
        · rw [if_pos c11] at h
          refine w_if_eq_t (q := 926) d_Law_main_921 rfl c11 ?_
          refine w_goto (q := 2313) d_Law_main_926 rfl ?_
          cases h
          refine w_ls (ls' := [some (.ref 2097152), some (.ref 0), some (.ref 54), some (.ref 78), some (.int i), none, none]) (And.intro rfl (And.intro rfl (And.intro rfl (And.intro rfl (And.intro rfl trivial))))) ?_
          exact hr
        · rw [if_neg c11] at h
          refine w_if_eq_f (q := 924) d_Law_main_921 926 rfl rfl c11 ?_
          refine w_iconst (q := 925) (v := 0) d_Law_main_924 rfl (by decide) ?_
          cases h
          exact hr.elim
    · rw [if_neg c7] at h
      refine w_if_ne_t (q := 926) d_Law_main_904 rfl c7 ?_
      refine w_goto (q := 2313) d_Law_main_926 rfl ?_
      cases h
      refine w_ls (ls' := [some (.ref 2097152), some (.ref 0), some (.ref 54), some (.ref 78), some (.int i), none, none]) (And.intro rfl (And.intro rfl (And.intro rfl (And.intro rfl (And.intro rfl trivial))))) ?_
      exact hr
  · rw [if_neg c6] at h
    refine w_icmp_eq_f (q := 900) d_Law_main_897 902 rfl rfl c6 ?_
    refine w_iconst (q := 901) (v := 0) d_Law_main_900 rfl (by decide) ?_
    cases h
    exact hr.elim
def sp_case_12 (F L : Nat) (xs : Nat → Int32) (i : Int32) (g : Mem) : Option (Mem ⊕ Unit) := (rx L xs (i + 1)).bind fun v1 => (sp_Law_comb v1 g).bind fun v2 => (rx L xs (i + 1)).bind fun v3 => (sp_Model_comb F v3 v2.2).bind fun v4 => (sp_Model_thrown v4.2).bind fun v5 => if v5 = v2.1 then if v2.1 = 0 then (rd v4.2 78 1 0).bind fun v8 => if v4.1 = 0 then if (lg_cmp v8.toInt64 0) = 0 then some (.inl v4.2) else some (.inr ()) else if (lg_cmp v8.toInt64 1) = 0 then some (.inl v4.2) else some (.inr ()) else some (.inl v4.2) else some (.inr ())
theorem ok_case_12 {γ : GG} {F : Nat} {i : Int32} {g : Mem} {b : Nat × Nat} {Φ : PO} {r : Mem ⊕ Unit} (h : sp_case_12 F (gS γ).2.1 (gS γ).2.2 i g = some r) (hr : RQ (fun g9 => WA γ M_Law_main 130 2313 (lwL i) [] SH g9 false b Φ) (fun _ => False) r) : WA γ M_Law_main 130 929 (lwL i) [] SH g false (1 + b.1, 6 + b.2) Φ := by
  unfold sp_case_12 at h
  refine w_aload_n (q := 930) d_Law_main_929 rfl rfl ?_
  refine w_aload_n (q := 931) d_Law_main_930 rfl rfl ?_
  refine w_iload (q := 933) d_Law_main_931 rfl rfl ?_
  refine w_iconst (q := 934) (v := 1) d_Law_main_933 rfl (by decide) ?_
  refine w_iadd (q := 935) d_Law_main_934 rfl ?_
  obtain ⟨v1, hv, h⟩ := bnd h
  obtain ⟨hi, hv⟩ := rx_ok hv
  refine w_sld (q := 936) d_Law_main_935 rfl hi ?_
  rw [hv]
  refine w_aload_n (q := 937) d_Law_main_936 rfl rfl ?_
  obtain ⟨v2, hv, h⟩ := bnd h
  refine w_callHi (q := 940) (M' := M_Law_comb) (n' := 4) (As := [.ref 0, .int v1, .ref 78]) (sh' := SH) (b1 := (1, 6)) (b2 := b) d_Law_main_937 rfl mw_Law_comb (by decide) (by decide) ml_Law_160 rfl rfl (leb rfl) rfl (fun h9 => absurd h9 (by decide)) (ok_Law_comb hv) ?_
  refine w_istore (q := 942) (ls' := [some (.ref 2097152), some (.ref 0), some (.ref 54), some (.ref 78), some (.int i), some (.int v2.1), none]) d_Law_main_940 rfl (by decide) rfl rfl ?_
  refine w_aload_n (q := 943) d_Law_main_942 rfl rfl ?_
  refine w_aload_n (q := 944) d_Law_main_943 rfl rfl ?_
  refine w_iload (q := 946) d_Law_main_944 rfl rfl ?_
  refine w_iconst (q := 947) (v := 1) d_Law_main_946 rfl (by decide) ?_
  refine w_iadd (q := 948) d_Law_main_947 rfl ?_
  obtain ⟨v3, hv, h⟩ := bnd h
  obtain ⟨hi, hv⟩ := rx_ok hv
  refine w_sld (q := 949) d_Law_main_948 rfl hi ?_
  rw [hv]
  obtain ⟨v4, hv, h⟩ := bnd h
  refine w_callVi (q := 952) (M' := M_Model_comb) (n' := 3) (k := 54) (As := [.int v3]) (sh' := SH) (b1 := (0, 0)) d_Law_main_949 rfl mw_Model_comb (by decide) (by decide) ml_Law_162 (by decide) s_54 (by decide) rfl rfl rfl (leb rfl) (bz _) (fun _ => rfl) (ok_Model_comb hv) ?_
  refine w_istore (q := 954) (ls' := [some (.ref 2097152), some (.ref 0), some (.ref 54), some (.ref 78), some (.int i), some (.int v2.1), some (.int v4.1)]) d_Law_main_952 rfl (by decide) rfl rfl ?_
  refine w_aload_n (q := 955) d_Law_main_954 rfl rfl ?_
  obtain ⟨v5, hv, h⟩ := bnd h
  refine w_callVi (q := 958) (M' := M_Model_thrown) (n' := 0) (k := 54) (As := []) (sh' := SH) (b1 := (0, 0)) d_Law_main_955 rfl mw_Model_thrown (by decide) (by decide) ml_Law_122 (by decide) s_54 (by decide) rfl rfl rfl (leb rfl) (bz _) (fun _ => rfl) (ok_Model_thrown hv) ?_
  refine w_iload (q := 960) d_Law_main_958 rfl rfl ?_
  by_cases c6 : v5 = v2.1
  · rw [if_pos c6] at h
    refine w_icmp_eq_t (q := 965) d_Law_main_960 rfl c6 ?_
    refine w_iload (q := 967) d_Law_main_965 rfl rfl ?_
    by_cases c7 : v2.1 = 0
    · rw [if_pos c7] at h
      refine w_if_ne_f (q := 970) d_Law_main_967 989 rfl rfl c7 ?_
      refine w_aload_n (q := 971) d_Law_main_970 rfl rfl ?_
      refine w_iconst (q := 972) (v := 0) d_Law_main_971 rfl (by decide) ?_
      obtain ⟨v8, hv, h⟩ := bnd h
      obtain ⟨hi, hv⟩ := rd_ok hv
      refine w_lald (q := 973) d_Law_main_972 rfl l_78.2 l_78.1 hi ?_
      rw [hv]
      refine w_iload (q := 975) d_Law_main_973 rfl rfl ?_
      by_cases c9 : v4.1 = 0
      · rw [if_pos c9] at h
        refine w_if_eq_t (q := 982) d_Law_main_975 rfl c9 ?_
        refine w_lconst (q := 983) (v := 0) d_Law_main_982 rfl (by decide) ?_
        refine w_lcmp (q := 984) d_Law_main_983 rfl ?_
        by_cases c10 : (lg_cmp v8.toInt64 0) = 0
        · rw [if_pos c10] at h
          refine w_if_eq_t (q := 989) d_Law_main_984 rfl c10 ?_
          refine w_goto (q := 2313) d_Law_main_989 rfl ?_
          cases h
          refine w_ls (ls' := [some (.ref 2097152), some (.ref 0), some (.ref 54), some (.ref 78), some (.int i), none, none]) (And.intro rfl (And.intro rfl (And.intro rfl (And.intro rfl (And.intro rfl trivial))))) ?_
          exact hr
        · rw [if_neg c10] at h
          refine w_if_eq_f (q := 987) d_Law_main_984 989 rfl rfl c10 ?_
          refine w_iconst (q := 988) (v := 0) d_Law_main_987 rfl (by decide) ?_
          cases h
          exact hr.elim
      · rw [if_neg c9] at h
        refine w_if_eq_f (q := 978) d_Law_main_975 982 rfl rfl c9 ?_
        refine w_lconst (q := 979) (v := 1) d_Law_main_978 rfl (by decide) ?_
        refine w_goto (q := 983) d_Law_main_979 rfl ?_
        refine w_lcmp (q := 984) d_Law_main_983 rfl ?_
        by_cases c11 : (lg_cmp v8.toInt64 1) = 0
        · rw [if_pos c11] at h
          refine w_if_eq_t (q := 989) d_Law_main_984 rfl c11 ?_
          refine w_goto (q := 2313) d_Law_main_989 rfl ?_
          cases h
          refine w_ls (ls' := [some (.ref 2097152), some (.ref 0), some (.ref 54), some (.ref 78), some (.int i), none, none]) (And.intro rfl (And.intro rfl (And.intro rfl (And.intro rfl (And.intro rfl trivial))))) ?_
          exact hr
        · rw [if_neg c11] at h
          refine w_if_eq_f (q := 987) d_Law_main_984 989 rfl rfl c11 ?_
          refine w_iconst (q := 988) (v := 0) d_Law_main_987 rfl (by decide) ?_
          cases h
          exact hr.elim
    · rw [if_neg c7] at h
      refine w_if_ne_t (q := 989) d_Law_main_967 rfl c7 ?_
      refine w_goto (q := 2313) d_Law_main_989 rfl ?_
      cases h
      refine w_ls (ls' := [some (.ref 2097152), some (.ref 0), some (.ref 54), some (.ref 78), some (.int i), none, none]) (And.intro rfl (And.intro rfl (And.intro rfl (And.intro rfl (And.intro rfl trivial))))) ?_
      exact hr
  · rw [if_neg c6] at h
    refine w_icmp_eq_f (q := 963) d_Law_main_960 965 rfl rfl c6 ?_
    refine w_iconst (q := 964) (v := 0) d_Law_main_963 rfl (by decide) ?_
    cases h
    exact hr.elim
def sp_case_13 (F L : Nat) (xs : Nat → Int32) (i : Int32) (g : Mem) : Option (Mem ⊕ Unit) := (rx L xs (i + 1)).bind fun v1 => (rx L xs (i + 2)).bind fun v2 => (sp_Law_shave F v1 v2 g).bind fun v3 => (rx L xs (i + 1)).bind fun v4 => (rx L xs (i + 2)).bind fun v5 => (sp_Model_shave F v4 v5 v3.2).bind fun v6 => (sp_Model_thrown v6.2).bind fun v7 => if v7 = v3.1 then if v3.1 = 0 then (rd v6.2 78 1 0).bind fun v10 => if (lg_cmp v10.toInt64 v6.1.toInt64) = 0 then some (.inl v6.2) else some (.inr ()) else some (.inl v6.2) else some (.inr ())
theorem ok_case_13 {γ : GG} {F : Nat} {i : Int32} {g : Mem} {b : Nat × Nat} {Φ : PO} {r : Mem ⊕ Unit} (h : sp_case_13 F (gS γ).2.1 (gS γ).2.2 i g = some r) (hr : RQ (fun g9 => WA γ M_Law_main 130 2313 (lwL i) [] SH g9 false b Φ) (fun _ => False) r) : WA γ M_Law_main 130 992 (lwL i) [] SH g false (1 + b.1, 6 + b.2) Φ := by
  unfold sp_case_13 at h
  refine w_aload_n (q := 993) d_Law_main_992 rfl rfl ?_
  refine w_aload_n (q := 994) d_Law_main_993 rfl rfl ?_
  refine w_iload (q := 996) d_Law_main_994 rfl rfl ?_
  refine w_iconst (q := 997) (v := 1) d_Law_main_996 rfl (by decide) ?_
  refine w_iadd (q := 998) d_Law_main_997 rfl ?_
  obtain ⟨v1, hv, h⟩ := bnd h
  obtain ⟨hi, hv⟩ := rx_ok hv
  refine w_sld (q := 999) d_Law_main_998 rfl hi ?_
  rw [hv]
  refine w_aload_n (q := 1000) d_Law_main_999 rfl rfl ?_
  refine w_iload (q := 1002) d_Law_main_1000 rfl rfl ?_
  refine w_iconst (q := 1003) (v := 2) d_Law_main_1002 rfl (by decide) ?_
  refine w_iadd (q := 1004) d_Law_main_1003 rfl ?_
  obtain ⟨v2, hv, h⟩ := bnd h
  obtain ⟨hi, hv⟩ := rx_ok hv
  refine w_sld (q := 1005) d_Law_main_1004 rfl hi ?_
  rw [hv]
  refine w_aload_n (q := 1006) d_Law_main_1005 rfl rfl ?_
  obtain ⟨v3, hv, h⟩ := bnd h
  refine w_callHi (q := 1009) (M' := M_Law_shave) (n' := 6) (As := [.ref 0, .int v1, .int v2, .ref 78]) (sh' := SH) (b1 := (1, 6)) (b2 := b) d_Law_main_1006 rfl mw_Law_shave (by decide) (by decide) ml_Law_163 rfl rfl (leb rfl) rfl (fun h9 => absurd h9 (by decide)) (ok_Law_shave hv) ?_
  refine w_istore (q := 1011) (ls' := [some (.ref 2097152), some (.ref 0), some (.ref 54), some (.ref 78), some (.int i), some (.int v3.1), none]) d_Law_main_1009 rfl (by decide) rfl rfl ?_
  refine w_aload_n (q := 1012) d_Law_main_1011 rfl rfl ?_
  refine w_aload_n (q := 1013) d_Law_main_1012 rfl rfl ?_
  refine w_iload (q := 1015) d_Law_main_1013 rfl rfl ?_
  refine w_iconst (q := 1016) (v := 1) d_Law_main_1015 rfl (by decide) ?_
  refine w_iadd (q := 1017) d_Law_main_1016 rfl ?_
  obtain ⟨v4, hv, h⟩ := bnd h
  obtain ⟨hi, hv⟩ := rx_ok hv
  refine w_sld (q := 1018) d_Law_main_1017 rfl hi ?_
  rw [hv]
  refine w_aload_n (q := 1019) d_Law_main_1018 rfl rfl ?_
  refine w_iload (q := 1021) d_Law_main_1019 rfl rfl ?_
  refine w_iconst (q := 1022) (v := 2) d_Law_main_1021 rfl (by decide) ?_
  refine w_iadd (q := 1023) d_Law_main_1022 rfl ?_
  obtain ⟨v5, hv, h⟩ := bnd h
  obtain ⟨hi, hv⟩ := rx_ok hv
  refine w_sld (q := 1024) d_Law_main_1023 rfl hi ?_
  rw [hv]
  obtain ⟨v6, hv, h⟩ := bnd h
  refine w_callVi (q := 1027) (M' := M_Model_shave) (n' := 4) (k := 54) (As := [.int v4, .int v5]) (sh' := SH) (b1 := (0, 0)) d_Law_main_1024 rfl mw_Model_shave (by decide) (by decide) ml_Law_165 (by decide) s_54 (by decide) rfl rfl rfl (leb rfl) (bz _) (fun _ => rfl) (ok_Model_shave hv) ?_
  refine w_istore (q := 1029) (ls' := [some (.ref 2097152), some (.ref 0), some (.ref 54), some (.ref 78), some (.int i), some (.int v3.1), some (.int v6.1)]) d_Law_main_1027 rfl (by decide) rfl rfl ?_
  refine w_aload_n (q := 1030) d_Law_main_1029 rfl rfl ?_
  obtain ⟨v7, hv, h⟩ := bnd h
  refine w_callVi (q := 1033) (M' := M_Model_thrown) (n' := 0) (k := 54) (As := []) (sh' := SH) (b1 := (0, 0)) d_Law_main_1030 rfl mw_Model_thrown (by decide) (by decide) ml_Law_122 (by decide) s_54 (by decide) rfl rfl rfl (leb rfl) (bz _) (fun _ => rfl) (ok_Model_thrown hv) ?_
  refine w_iload (q := 1035) d_Law_main_1033 rfl rfl ?_
  by_cases c8 : v7 = v3.1
  · rw [if_pos c8] at h
    refine w_icmp_eq_t (q := 1040) d_Law_main_1035 rfl c8 ?_
    refine w_iload (q := 1042) d_Law_main_1040 rfl rfl ?_
    by_cases c9 : v3.1 = 0
    · rw [if_pos c9] at h
      refine w_if_ne_f (q := 1045) d_Law_main_1042 1057 rfl rfl c9 ?_
      refine w_aload_n (q := 1046) d_Law_main_1045 rfl rfl ?_
      refine w_iconst (q := 1047) (v := 0) d_Law_main_1046 rfl (by decide) ?_
      obtain ⟨v10, hv, h⟩ := bnd h
      obtain ⟨hi, hv⟩ := rd_ok hv
      refine w_lald (q := 1048) d_Law_main_1047 rfl l_78.2 l_78.1 hi ?_
      rw [hv]
      refine w_iload (q := 1050) d_Law_main_1048 rfl rfl ?_
      refine w_i2l (q := 1051) d_Law_main_1050 rfl ?_
      refine w_lcmp (q := 1052) d_Law_main_1051 rfl ?_
      by_cases c11 : (lg_cmp v10.toInt64 v6.1.toInt64) = 0
      · rw [if_pos c11] at h
        refine w_if_eq_t (q := 1057) d_Law_main_1052 rfl c11 ?_
        refine w_goto (q := 2313) d_Law_main_1057 rfl ?_
        cases h
        refine w_ls (ls' := [some (.ref 2097152), some (.ref 0), some (.ref 54), some (.ref 78), some (.int i), none, none]) (And.intro rfl (And.intro rfl (And.intro rfl (And.intro rfl (And.intro rfl trivial))))) ?_
        exact hr
      · rw [if_neg c11] at h
        refine w_if_eq_f (q := 1055) d_Law_main_1052 1057 rfl rfl c11 ?_
        refine w_iconst (q := 1056) (v := 0) d_Law_main_1055 rfl (by decide) ?_
        cases h
        exact hr.elim
    · rw [if_neg c9] at h
      refine w_if_ne_t (q := 1057) d_Law_main_1042 rfl c9 ?_
      refine w_goto (q := 2313) d_Law_main_1057 rfl ?_
      cases h
      refine w_ls (ls' := [some (.ref 2097152), some (.ref 0), some (.ref 54), some (.ref 78), some (.int i), none, none]) (And.intro rfl (And.intro rfl (And.intro rfl (And.intro rfl (And.intro rfl trivial))))) ?_
      exact hr
  · rw [if_neg c8] at h
    refine w_icmp_eq_f (q := 1038) d_Law_main_1035 1040 rfl rfl c8 ?_
    refine w_iconst (q := 1039) (v := 0) d_Law_main_1038 rfl (by decide) ?_
    cases h
    exact hr.elim
def sp_case_14 (F L : Nat) (xs : Nat → Int32) (i : Int32) (g : Mem) : Option (Mem ⊕ Unit) := (rx L xs (i + 1)).bind fun v1 => (rx L xs (i + 2)).bind fun v2 => (rx L xs (i + 3)).bind fun v3 => (sp_Law_moths F v1 v2 v3 g).bind fun v4 => (rx L xs (i + 1)).bind fun v5 => (rx L xs (i + 2)).bind fun v6 => (rx L xs (i + 3)).bind fun v7 => (sp_Model_moths F v5 v6 v7 v4.2).bind fun v8 => (sp_Model_thrown v8.2).bind fun v9 => if v9 = v4.1 then if v4.1 = 0 then (rd v8.2 78 1 0).bind fun v12 => if (lg_cmp v12.toInt64 v8.1.toInt64) = 0 then some (.inl v8.2) else some (.inr ()) else some (.inl v8.2) else some (.inr ())
theorem ok_case_14 {γ : GG} {F : Nat} {i : Int32} {g : Mem} {b : Nat × Nat} {Φ : PO} {r : Mem ⊕ Unit} (h : sp_case_14 F (gS γ).2.1 (gS γ).2.2 i g = some r) (hr : RQ (fun g9 => WA γ M_Law_main 130 2313 (lwL i) [] SH g9 false b Φ) (fun _ => False) r) : WA γ M_Law_main 130 1060 (lwL i) [] SH g false (1 + b.1, 6 + b.2) Φ := by
  unfold sp_case_14 at h
  refine w_aload_n (q := 1061) d_Law_main_1060 rfl rfl ?_
  refine w_aload_n (q := 1062) d_Law_main_1061 rfl rfl ?_
  refine w_iload (q := 1064) d_Law_main_1062 rfl rfl ?_
  refine w_iconst (q := 1065) (v := 1) d_Law_main_1064 rfl (by decide) ?_
  refine w_iadd (q := 1066) d_Law_main_1065 rfl ?_
  obtain ⟨v1, hv, h⟩ := bnd h
  obtain ⟨hi, hv⟩ := rx_ok hv
  refine w_sld (q := 1067) d_Law_main_1066 rfl hi ?_
  rw [hv]
  refine w_aload_n (q := 1068) d_Law_main_1067 rfl rfl ?_
  refine w_iload (q := 1070) d_Law_main_1068 rfl rfl ?_
  refine w_iconst (q := 1071) (v := 2) d_Law_main_1070 rfl (by decide) ?_
  refine w_iadd (q := 1072) d_Law_main_1071 rfl ?_
  obtain ⟨v2, hv, h⟩ := bnd h
  obtain ⟨hi, hv⟩ := rx_ok hv
  refine w_sld (q := 1073) d_Law_main_1072 rfl hi ?_
  rw [hv]
  refine w_aload_n (q := 1074) d_Law_main_1073 rfl rfl ?_
  refine w_iload (q := 1076) d_Law_main_1074 rfl rfl ?_
  refine w_iconst (q := 1077) (v := 3) d_Law_main_1076 rfl (by decide) ?_
  refine w_iadd (q := 1078) d_Law_main_1077 rfl ?_
  obtain ⟨v3, hv, h⟩ := bnd h
  obtain ⟨hi, hv⟩ := rx_ok hv
  refine w_sld (q := 1079) d_Law_main_1078 rfl hi ?_
  rw [hv]
  refine w_aload_n (q := 1080) d_Law_main_1079 rfl rfl ?_
  obtain ⟨v4, hv, h⟩ := bnd h
  refine w_callHi (q := 1083) (M' := M_Law_moths) (n' := 5) (As := [.ref 0, .int v1, .int v2, .int v3, .ref 78]) (sh' := SH) (b1 := (1, 6)) (b2 := b) d_Law_main_1080 rfl mw_Law_moths (by decide) (by decide) ml_Law_166 rfl rfl (leb rfl) rfl (fun h9 => absurd h9 (by decide)) (ok_Law_moths hv) ?_
  refine w_istore (q := 1085) (ls' := [some (.ref 2097152), some (.ref 0), some (.ref 54), some (.ref 78), some (.int i), some (.int v4.1), none]) d_Law_main_1083 rfl (by decide) rfl rfl ?_
  refine w_aload_n (q := 1086) d_Law_main_1085 rfl rfl ?_
  refine w_aload_n (q := 1087) d_Law_main_1086 rfl rfl ?_
  refine w_iload (q := 1089) d_Law_main_1087 rfl rfl ?_
  refine w_iconst (q := 1090) (v := 1) d_Law_main_1089 rfl (by decide) ?_
  refine w_iadd (q := 1091) d_Law_main_1090 rfl ?_
  obtain ⟨v5, hv, h⟩ := bnd h
  obtain ⟨hi, hv⟩ := rx_ok hv
  refine w_sld (q := 1092) d_Law_main_1091 rfl hi ?_
  rw [hv]
  refine w_aload_n (q := 1093) d_Law_main_1092 rfl rfl ?_
  refine w_iload (q := 1095) d_Law_main_1093 rfl rfl ?_
  refine w_iconst (q := 1096) (v := 2) d_Law_main_1095 rfl (by decide) ?_
  refine w_iadd (q := 1097) d_Law_main_1096 rfl ?_
  obtain ⟨v6, hv, h⟩ := bnd h
  obtain ⟨hi, hv⟩ := rx_ok hv
  refine w_sld (q := 1098) d_Law_main_1097 rfl hi ?_
  rw [hv]
  refine w_aload_n (q := 1099) d_Law_main_1098 rfl rfl ?_
  refine w_iload (q := 1101) d_Law_main_1099 rfl rfl ?_
  refine w_iconst (q := 1102) (v := 3) d_Law_main_1101 rfl (by decide) ?_
  refine w_iadd (q := 1103) d_Law_main_1102 rfl ?_
  obtain ⟨v7, hv, h⟩ := bnd h
  obtain ⟨hi, hv⟩ := rx_ok hv
  refine w_sld (q := 1104) d_Law_main_1103 rfl hi ?_
  rw [hv]
  obtain ⟨v8, hv, h⟩ := bnd h
  refine w_callVi (q := 1107) (M' := M_Model_moths) (n' := 4) (k := 54) (As := [.int v5, .int v6, .int v7]) (sh' := SH) (b1 := (0, 0)) d_Law_main_1104 rfl mw_Model_moths (by decide) (by decide) ml_Law_169 (by decide) s_54 (by decide) rfl rfl rfl (leb rfl) (bz _) (fun _ => rfl) (ok_Model_moths hv) ?_
  refine w_istore (q := 1109) (ls' := [some (.ref 2097152), some (.ref 0), some (.ref 54), some (.ref 78), some (.int i), some (.int v4.1), some (.int v8.1)]) d_Law_main_1107 rfl (by decide) rfl rfl ?_
  refine w_aload_n (q := 1110) d_Law_main_1109 rfl rfl ?_
  obtain ⟨v9, hv, h⟩ := bnd h
  refine w_callVi (q := 1113) (M' := M_Model_thrown) (n' := 0) (k := 54) (As := []) (sh' := SH) (b1 := (0, 0)) d_Law_main_1110 rfl mw_Model_thrown (by decide) (by decide) ml_Law_122 (by decide) s_54 (by decide) rfl rfl rfl (leb rfl) (bz _) (fun _ => rfl) (ok_Model_thrown hv) ?_
  refine w_iload (q := 1115) d_Law_main_1113 rfl rfl ?_
  by_cases c10 : v9 = v4.1
  · rw [if_pos c10] at h
    refine w_icmp_eq_t (q := 1120) d_Law_main_1115 rfl c10 ?_
    refine w_iload (q := 1122) d_Law_main_1120 rfl rfl ?_
    by_cases c11 : v4.1 = 0
    · rw [if_pos c11] at h
      refine w_if_ne_f (q := 1125) d_Law_main_1122 1137 rfl rfl c11 ?_
      refine w_aload_n (q := 1126) d_Law_main_1125 rfl rfl ?_
      refine w_iconst (q := 1127) (v := 0) d_Law_main_1126 rfl (by decide) ?_
      obtain ⟨v12, hv, h⟩ := bnd h
      obtain ⟨hi, hv⟩ := rd_ok hv
      refine w_lald (q := 1128) d_Law_main_1127 rfl l_78.2 l_78.1 hi ?_
      rw [hv]
      refine w_iload (q := 1130) d_Law_main_1128 rfl rfl ?_
      refine w_i2l (q := 1131) d_Law_main_1130 rfl ?_
      refine w_lcmp (q := 1132) d_Law_main_1131 rfl ?_
      by_cases c13 : (lg_cmp v12.toInt64 v8.1.toInt64) = 0
      · rw [if_pos c13] at h
        refine w_if_eq_t (q := 1137) d_Law_main_1132 rfl c13 ?_
        refine w_goto (q := 2313) d_Law_main_1137 rfl ?_
        cases h
        refine w_ls (ls' := [some (.ref 2097152), some (.ref 0), some (.ref 54), some (.ref 78), some (.int i), none, none]) (And.intro rfl (And.intro rfl (And.intro rfl (And.intro rfl (And.intro rfl trivial))))) ?_
        exact hr
      · rw [if_neg c13] at h
        refine w_if_eq_f (q := 1135) d_Law_main_1132 1137 rfl rfl c13 ?_
        refine w_iconst (q := 1136) (v := 0) d_Law_main_1135 rfl (by decide) ?_
        cases h
        exact hr.elim
    · rw [if_neg c11] at h
      refine w_if_ne_t (q := 1137) d_Law_main_1122 rfl c11 ?_
      refine w_goto (q := 2313) d_Law_main_1137 rfl ?_
      cases h
      refine w_ls (ls' := [some (.ref 2097152), some (.ref 0), some (.ref 54), some (.ref 78), some (.int i), none, none]) (And.intro rfl (And.intro rfl (And.intro rfl (And.intro rfl (And.intro rfl trivial))))) ?_
      exact hr
  · rw [if_neg c10] at h
    refine w_icmp_eq_f (q := 1118) d_Law_main_1115 1120 rfl rfl c10 ?_
    refine w_iconst (q := 1119) (v := 0) d_Law_main_1118 rfl (by decide) ?_
    cases h
    exact hr.elim
def sp_case_15 (F L : Nat) (xs : Nat → Int32) (i : Int32) (g : Mem) : Option (Mem ⊕ Unit) := (rx L xs (i + 1)).bind fun v1 => (sp_Law_die v1 g).bind fun v2 => (rx L xs (i + 1)).bind fun v3 => (sp_Model_die F v3 v2.2).bind fun v4 => (sp_Model_thrown v4.2).bind fun v5 => if v5 = v2.1 then if v2.1 = 0 then (rd v4.2 78 1 0).bind fun v8 => if v4.1 = 0 then if (lg_cmp v8.toInt64 0) = 0 then some (.inl v4.2) else some (.inr ()) else if (lg_cmp v8.toInt64 1) = 0 then some (.inl v4.2) else some (.inr ()) else some (.inl v4.2) else some (.inr ())
theorem ok_case_15 {γ : GG} {F : Nat} {i : Int32} {g : Mem} {b : Nat × Nat} {Φ : PO} {r : Mem ⊕ Unit} (h : sp_case_15 F (gS γ).2.1 (gS γ).2.2 i g = some r) (hr : RQ (fun g9 => WA γ M_Law_main 130 2313 (lwL i) [] SH g9 false b Φ) (fun _ => False) r) : WA γ M_Law_main 130 1140 (lwL i) [] SH g false (1 + b.1, 6 + b.2) Φ := by
  unfold sp_case_15 at h
  refine w_aload_n (q := 1141) d_Law_main_1140 rfl rfl ?_
  refine w_aload_n (q := 1142) d_Law_main_1141 rfl rfl ?_
  refine w_iload (q := 1144) d_Law_main_1142 rfl rfl ?_
  refine w_iconst (q := 1145) (v := 1) d_Law_main_1144 rfl (by decide) ?_
  refine w_iadd (q := 1146) d_Law_main_1145 rfl ?_
  obtain ⟨v1, hv, h⟩ := bnd h
  obtain ⟨hi, hv⟩ := rx_ok hv
  refine w_sld (q := 1147) d_Law_main_1146 rfl hi ?_
  rw [hv]
  refine w_aload_n (q := 1148) d_Law_main_1147 rfl rfl ?_
  obtain ⟨v2, hv, h⟩ := bnd h
  refine w_callHi (q := 1151) (M' := M_Law_die) (n' := 3) (As := [.ref 0, .int v1, .ref 78]) (sh' := SH) (b1 := (1, 6)) (b2 := b) d_Law_main_1148 rfl mw_Law_die (by decide) (by decide) ml_Law_170 rfl rfl (leb rfl) rfl (fun h9 => absurd h9 (by decide)) (ok_Law_die hv) ?_
  refine w_istore (q := 1153) (ls' := [some (.ref 2097152), some (.ref 0), some (.ref 54), some (.ref 78), some (.int i), some (.int v2.1), none]) d_Law_main_1151 rfl (by decide) rfl rfl ?_
  refine w_aload_n (q := 1154) d_Law_main_1153 rfl rfl ?_
  refine w_aload_n (q := 1155) d_Law_main_1154 rfl rfl ?_
  refine w_iload (q := 1157) d_Law_main_1155 rfl rfl ?_
  refine w_iconst (q := 1158) (v := 1) d_Law_main_1157 rfl (by decide) ?_
  refine w_iadd (q := 1159) d_Law_main_1158 rfl ?_
  obtain ⟨v3, hv, h⟩ := bnd h
  obtain ⟨hi, hv⟩ := rx_ok hv
  refine w_sld (q := 1160) d_Law_main_1159 rfl hi ?_
  rw [hv]
  obtain ⟨v4, hv, h⟩ := bnd h
  refine w_callVi (q := 1163) (M' := M_Model_die) (n' := 2) (k := 54) (As := [.int v3]) (sh' := SH) (b1 := (0, 0)) d_Law_main_1160 rfl mw_Model_die (by decide) (by decide) ml_Law_172 (by decide) s_54 (by decide) rfl rfl rfl (leb rfl) (bz _) (fun _ => rfl) (ok_Model_die hv) ?_
  refine w_istore (q := 1165) (ls' := [some (.ref 2097152), some (.ref 0), some (.ref 54), some (.ref 78), some (.int i), some (.int v2.1), some (.int v4.1)]) d_Law_main_1163 rfl (by decide) rfl rfl ?_
  refine w_aload_n (q := 1166) d_Law_main_1165 rfl rfl ?_
  obtain ⟨v5, hv, h⟩ := bnd h
  refine w_callVi (q := 1169) (M' := M_Model_thrown) (n' := 0) (k := 54) (As := []) (sh' := SH) (b1 := (0, 0)) d_Law_main_1166 rfl mw_Model_thrown (by decide) (by decide) ml_Law_122 (by decide) s_54 (by decide) rfl rfl rfl (leb rfl) (bz _) (fun _ => rfl) (ok_Model_thrown hv) ?_
  refine w_iload (q := 1171) d_Law_main_1169 rfl rfl ?_
  by_cases c6 : v5 = v2.1
  · rw [if_pos c6] at h
    refine w_icmp_eq_t (q := 1176) d_Law_main_1171 rfl c6 ?_
    refine w_iload (q := 1178) d_Law_main_1176 rfl rfl ?_
    by_cases c7 : v2.1 = 0
    · rw [if_pos c7] at h
      refine w_if_ne_f (q := 1181) d_Law_main_1178 1200 rfl rfl c7 ?_
      refine w_aload_n (q := 1182) d_Law_main_1181 rfl rfl ?_
      refine w_iconst (q := 1183) (v := 0) d_Law_main_1182 rfl (by decide) ?_
      obtain ⟨v8, hv, h⟩ := bnd h
      obtain ⟨hi, hv⟩ := rd_ok hv
      refine w_lald (q := 1184) d_Law_main_1183 rfl l_78.2 l_78.1 hi ?_
      rw [hv]
      refine w_iload (q := 1186) d_Law_main_1184 rfl rfl ?_
      by_cases c9 : v4.1 = 0
      · rw [if_pos c9] at h
        refine w_if_eq_t (q := 1193) d_Law_main_1186 rfl c9 ?_
        refine w_lconst (q := 1194) (v := 0) d_Law_main_1193 rfl (by decide) ?_
        refine w_lcmp (q := 1195) d_Law_main_1194 rfl ?_
        by_cases c10 : (lg_cmp v8.toInt64 0) = 0
        · rw [if_pos c10] at h
          refine w_if_eq_t (q := 1200) d_Law_main_1195 rfl c10 ?_
          refine w_goto (q := 2313) d_Law_main_1200 rfl ?_
          cases h
          refine w_ls (ls' := [some (.ref 2097152), some (.ref 0), some (.ref 54), some (.ref 78), some (.int i), none, none]) (And.intro rfl (And.intro rfl (And.intro rfl (And.intro rfl (And.intro rfl trivial))))) ?_
          exact hr
        · rw [if_neg c10] at h
          refine w_if_eq_f (q := 1198) d_Law_main_1195 1200 rfl rfl c10 ?_
          refine w_iconst (q := 1199) (v := 0) d_Law_main_1198 rfl (by decide) ?_
          cases h
          exact hr.elim
      · rw [if_neg c9] at h
        refine w_if_eq_f (q := 1189) d_Law_main_1186 1193 rfl rfl c9 ?_
        refine w_lconst (q := 1190) (v := 1) d_Law_main_1189 rfl (by decide) ?_
        refine w_goto (q := 1194) d_Law_main_1190 rfl ?_
        refine w_lcmp (q := 1195) d_Law_main_1194 rfl ?_
        by_cases c11 : (lg_cmp v8.toInt64 1) = 0
        · rw [if_pos c11] at h
          refine w_if_eq_t (q := 1200) d_Law_main_1195 rfl c11 ?_
          refine w_goto (q := 2313) d_Law_main_1200 rfl ?_
          cases h
          refine w_ls (ls' := [some (.ref 2097152), some (.ref 0), some (.ref 54), some (.ref 78), some (.int i), none, none]) (And.intro rfl (And.intro rfl (And.intro rfl (And.intro rfl (And.intro rfl trivial))))) ?_
          exact hr
        · rw [if_neg c11] at h
          refine w_if_eq_f (q := 1198) d_Law_main_1195 1200 rfl rfl c11 ?_
          refine w_iconst (q := 1199) (v := 0) d_Law_main_1198 rfl (by decide) ?_
          cases h
          exact hr.elim
    · rw [if_neg c7] at h
      refine w_if_ne_t (q := 1200) d_Law_main_1178 rfl c7 ?_
      refine w_goto (q := 2313) d_Law_main_1200 rfl ?_
      cases h
      refine w_ls (ls' := [some (.ref 2097152), some (.ref 0), some (.ref 54), some (.ref 78), some (.int i), none, none]) (And.intro rfl (And.intro rfl (And.intro rfl (And.intro rfl (And.intro rfl trivial))))) ?_
      exact hr
  · rw [if_neg c6] at h
    refine w_icmp_eq_f (q := 1174) d_Law_main_1171 1176 rfl rfl c6 ?_
    refine w_iconst (q := 1175) (v := 0) d_Law_main_1174 rfl (by decide) ?_
    cases h
    exact hr.elim
def sp_case_16 (F L : Nat) (xs : Nat → Int32) (i : Int32) (g : Mem) : Option (Mem ⊕ Unit) := (sp_Hall_undo g).bind fun v1 => (sp_Model_undo F v1.2).bind fun v2 => if v1.1 = v2.1 then some (.inl v2.2) else some (.inr ())
theorem ok_case_16 {γ : GG} {F : Nat} {i : Int32} {g : Mem} {b : Nat × Nat} {Φ : PO} {r : Mem ⊕ Unit} (h : sp_case_16 F (gS γ).2.1 (gS γ).2.2 i g = some r) (hr : RQ (fun g9 => WA γ M_Law_main 130 2313 (lwL i) [] SH g9 false b Φ) (fun _ => False) r) : WA γ M_Law_main 130 1203 (lwL i) [] SH g false (1 + b.1, 6 + b.2) Φ := by
  unfold sp_case_16 at h
  refine w_aload_n (q := 1204) d_Law_main_1203 rfl rfl ?_
  obtain ⟨v1, hv, h⟩ := bnd h
  refine w_callVi (q := 1207) (M' := M_Hall_undo) (n' := 2) (k := 0) (As := []) (sh' := SH) (b1 := (0, 0)) d_Law_main_1204 rfl mw_Hall_undo (by decide) (by decide) ml_Law_173 (by decide) s_0 (by decide) rfl rfl rfl (leb rfl) (bz _) (fun _ => rfl) (ok_Hall_undo hv) ?_
  refine w_aload_n (q := 1208) d_Law_main_1207 rfl rfl ?_
  obtain ⟨v2, hv, h⟩ := bnd h
  refine w_callVi (q := 1211) (M' := M_Model_undo) (n' := 1) (k := 54) (As := []) (sh' := SH) (b1 := (0, 0)) d_Law_main_1208 rfl mw_Model_undo (by decide) (by decide) ml_Law_176 (by decide) s_54 (by decide) rfl rfl rfl (leb rfl) (bz _) (fun _ => rfl) (ok_Model_undo hv) ?_
  by_cases c3 : v1.1 = v2.1
  · rw [if_pos c3] at h
    refine w_icmp_eq_t (q := 2313) d_Law_main_1211 rfl c3 ?_
    cases h
    refine w_ls (ls' := [some (.ref 2097152), some (.ref 0), some (.ref 54), some (.ref 78), some (.int i), none, none]) (And.intro rfl (And.intro rfl (And.intro rfl (And.intro rfl (And.intro rfl trivial))))) ?_
    exact w_wide (Nat.le_add_left _ _) (Nat.le_add_left _ _) hr
  · rw [if_neg c3] at h
    refine w_icmp_eq_f (q := 1214) d_Law_main_1211 2313 rfl rfl c3 ?_
    refine w_iconst (q := 1215) (v := 0) d_Law_main_1214 rfl (by decide) ?_
    cases h
    exact hr.elim
def sp_case_17 (F L : Nat) (xs : Nat → Int32) (i : Int32) (g : Mem) : Option (Mem ⊕ Unit) := (rx L xs (i + 1)).bind fun v1 => (sp_Law_law F v1 g).bind fun v2 => (rx L xs (i + 1)).bind fun v3 => (sp_Model_law F v3 v2.2).bind fun v4 => (sp_Model_thrown v4.2).bind fun v5 => if v5 = v2.1 then if v2.1 = 0 then (rd v4.2 78 1 0).bind fun v8 => if (lg_cmp v8.toInt64 v4.1.toInt64) = 0 then some (.inl v4.2) else some (.inr ()) else some (.inl v4.2) else some (.inr ())
theorem ok_case_17 {γ : GG} {F : Nat} {i : Int32} {g : Mem} {b : Nat × Nat} {Φ : PO} {r : Mem ⊕ Unit} (h : sp_case_17 F (gS γ).2.1 (gS γ).2.2 i g = some r) (hr : RQ (fun g9 => WA γ M_Law_main 130 2313 (lwL i) [] SH g9 false b Φ) (fun _ => False) r) : WA γ M_Law_main 130 1216 (lwL i) [] SH g false (1 + b.1, 6 + b.2) Φ := by
  unfold sp_case_17 at h
  refine w_aload_n (q := 1217) d_Law_main_1216 rfl rfl ?_
  refine w_aload_n (q := 1218) d_Law_main_1217 rfl rfl ?_
  refine w_iload (q := 1220) d_Law_main_1218 rfl rfl ?_
  refine w_iconst (q := 1221) (v := 1) d_Law_main_1220 rfl (by decide) ?_
  refine w_iadd (q := 1222) d_Law_main_1221 rfl ?_
  obtain ⟨v1, hv, h⟩ := bnd h
  obtain ⟨hi, hv⟩ := rx_ok hv
  refine w_sld (q := 1223) d_Law_main_1222 rfl hi ?_
  rw [hv]
  refine w_aload_n (q := 1224) d_Law_main_1223 rfl rfl ?_
  obtain ⟨v2, hv, h⟩ := bnd h
  refine w_callHi (q := 1227) (M' := M_Law_law) (n' := 5) (As := [.ref 0, .int v1, .ref 78]) (sh' := SH) (b1 := (1, 6)) (b2 := b) d_Law_main_1224 rfl mw_Law_law (by decide) (by decide) ml_Law_177 rfl rfl (leb rfl) rfl (fun h9 => absurd h9 (by decide)) (ok_Law_law hv) ?_
  refine w_istore (q := 1229) (ls' := [some (.ref 2097152), some (.ref 0), some (.ref 54), some (.ref 78), some (.int i), some (.int v2.1), none]) d_Law_main_1227 rfl (by decide) rfl rfl ?_
  refine w_aload_n (q := 1230) d_Law_main_1229 rfl rfl ?_
  refine w_aload_n (q := 1231) d_Law_main_1230 rfl rfl ?_
  refine w_iload (q := 1233) d_Law_main_1231 rfl rfl ?_
  refine w_iconst (q := 1234) (v := 1) d_Law_main_1233 rfl (by decide) ?_
  refine w_iadd (q := 1235) d_Law_main_1234 rfl ?_
  obtain ⟨v3, hv, h⟩ := bnd h
  obtain ⟨hi, hv⟩ := rx_ok hv
  refine w_sld (q := 1236) d_Law_main_1235 rfl hi ?_
  rw [hv]
  obtain ⟨v4, hv, h⟩ := bnd h
  refine w_callVi (q := 1239) (M' := M_Model_law) (n' := 3) (k := 54) (As := [.int v3]) (sh' := SH) (b1 := (0, 0)) d_Law_main_1236 rfl mw_Model_law (by decide) (by decide) ml_Law_179 (by decide) s_54 (by decide) rfl rfl rfl (leb rfl) (bz _) (fun _ => rfl) (ok_Model_law hv) ?_
  refine w_istore (q := 1241) (ls' := [some (.ref 2097152), some (.ref 0), some (.ref 54), some (.ref 78), some (.int i), some (.int v2.1), some (.int v4.1)]) d_Law_main_1239 rfl (by decide) rfl rfl ?_
  refine w_aload_n (q := 1242) d_Law_main_1241 rfl rfl ?_
  obtain ⟨v5, hv, h⟩ := bnd h
  refine w_callVi (q := 1245) (M' := M_Model_thrown) (n' := 0) (k := 54) (As := []) (sh' := SH) (b1 := (0, 0)) d_Law_main_1242 rfl mw_Model_thrown (by decide) (by decide) ml_Law_122 (by decide) s_54 (by decide) rfl rfl rfl (leb rfl) (bz _) (fun _ => rfl) (ok_Model_thrown hv) ?_
  refine w_iload (q := 1247) d_Law_main_1245 rfl rfl ?_
  by_cases c6 : v5 = v2.1
  · rw [if_pos c6] at h
    refine w_icmp_eq_t (q := 1252) d_Law_main_1247 rfl c6 ?_
    refine w_iload (q := 1254) d_Law_main_1252 rfl rfl ?_
    by_cases c7 : v2.1 = 0
    · rw [if_pos c7] at h
      refine w_if_ne_f (q := 1257) d_Law_main_1254 1269 rfl rfl c7 ?_
      refine w_aload_n (q := 1258) d_Law_main_1257 rfl rfl ?_
      refine w_iconst (q := 1259) (v := 0) d_Law_main_1258 rfl (by decide) ?_
      obtain ⟨v8, hv, h⟩ := bnd h
      obtain ⟨hi, hv⟩ := rd_ok hv
      refine w_lald (q := 1260) d_Law_main_1259 rfl l_78.2 l_78.1 hi ?_
      rw [hv]
      refine w_iload (q := 1262) d_Law_main_1260 rfl rfl ?_
      refine w_i2l (q := 1263) d_Law_main_1262 rfl ?_
      refine w_lcmp (q := 1264) d_Law_main_1263 rfl ?_
      by_cases c9 : (lg_cmp v8.toInt64 v4.1.toInt64) = 0
      · rw [if_pos c9] at h
        refine w_if_eq_t (q := 1269) d_Law_main_1264 rfl c9 ?_
        refine w_goto (q := 2313) d_Law_main_1269 rfl ?_
        cases h
        refine w_ls (ls' := [some (.ref 2097152), some (.ref 0), some (.ref 54), some (.ref 78), some (.int i), none, none]) (And.intro rfl (And.intro rfl (And.intro rfl (And.intro rfl (And.intro rfl trivial))))) ?_
        exact hr
      · rw [if_neg c9] at h
        refine w_if_eq_f (q := 1267) d_Law_main_1264 1269 rfl rfl c9 ?_
        refine w_iconst (q := 1268) (v := 0) d_Law_main_1267 rfl (by decide) ?_
        cases h
        exact hr.elim
    · rw [if_neg c7] at h
      refine w_if_ne_t (q := 1269) d_Law_main_1254 rfl c7 ?_
      refine w_goto (q := 2313) d_Law_main_1269 rfl ?_
      cases h
      refine w_ls (ls' := [some (.ref 2097152), some (.ref 0), some (.ref 54), some (.ref 78), some (.int i), none, none]) (And.intro rfl (And.intro rfl (And.intro rfl (And.intro rfl (And.intro rfl trivial))))) ?_
      exact hr
  · rw [if_neg c6] at h
    refine w_icmp_eq_f (q := 1250) d_Law_main_1247 1252 rfl rfl c6 ?_
    refine w_iconst (q := 1251) (v := 0) d_Law_main_1250 rfl (by decide) ?_
    cases h
    exact hr.elim
def sp_case_18 (F L : Nat) (xs : Nat → Int32) (i : Int32) (g : Mem) : Option (Mem ⊕ Unit) := (sp_Hall_rivals F g).bind fun v1 => (sp_Model_rivals F g).bind fun v2 => if v1 = v2.1 then some (.inl v2.2) else some (.inr ())
theorem ok_case_18 {γ : GG} {F : Nat} {i : Int32} {g : Mem} {b : Nat × Nat} {Φ : PO} {r : Mem ⊕ Unit} (h : sp_case_18 F (gS γ).2.1 (gS γ).2.2 i g = some r) (hr : RQ (fun g9 => WA γ M_Law_main 130 2313 (lwL i) [] SH g9 false b Φ) (fun _ => False) r) : WA γ M_Law_main 130 1272 (lwL i) [] SH g false (1 + b.1, 6 + b.2) Φ := by
  unfold sp_case_18 at h
  refine w_aload_n (q := 1273) d_Law_main_1272 rfl rfl ?_
  obtain ⟨v1, hv, h⟩ := bnd h
  refine w_callVi (q := 1276) (M' := M_Hall_rivals) (n' := 4) (k := 0) (As := []) (sh' := SH) (b1 := (0, 0)) d_Law_main_1273 rfl mw_Hall_rivals (by decide) (by decide) ml_Law_180 (by decide) s_0 (by decide) rfl rfl rfl (leb rfl) (bz _) (fun _ => rfl) (ok_Hall_rivals hv) ?_
  refine w_aload_n (q := 1277) d_Law_main_1276 rfl rfl ?_
  obtain ⟨v2, hv, h⟩ := bnd h
  refine w_callVi (q := 1280) (M' := M_Model_rivals) (n' := 4) (k := 54) (As := []) (sh' := SH) (b1 := (0, 0)) d_Law_main_1277 rfl mw_Model_rivals (by decide) (by decide) ml_Law_183 (by decide) s_54 (by decide) rfl rfl rfl (leb rfl) (bz _) (fun _ => rfl) (ok_Model_rivals hv) ?_
  by_cases c3 : v1 = v2.1
  · rw [if_pos c3] at h
    refine w_icmp_eq_t (q := 2313) d_Law_main_1280 rfl c3 ?_
    cases h
    refine w_ls (ls' := [some (.ref 2097152), some (.ref 0), some (.ref 54), some (.ref 78), some (.int i), none, none]) (And.intro rfl (And.intro rfl (And.intro rfl (And.intro rfl (And.intro rfl trivial))))) ?_
    exact w_wide (Nat.le_add_left _ _) (Nat.le_add_left _ _) hr
  · rw [if_neg c3] at h
    refine w_icmp_eq_f (q := 1283) d_Law_main_1280 2313 rfl rfl c3 ?_
    refine w_iconst (q := 1284) (v := 0) d_Law_main_1283 rfl (by decide) ?_
    cases h
    exact hr.elim
def sp_case_19 (F L : Nat) (xs : Nat → Int32) (i : Int32) (g : Mem) : Option (Mem ⊕ Unit) := (rx L xs (i + 1)).bind fun v1 => (sp_Law_owed F v1 g).bind fun v2 => (rx L xs (i + 1)).bind fun v3 => (sp_Model_owed F v3 v2.2).bind fun v4 => (sp_Model_thrown v4.2).bind fun v5 => if v5 = v2.1 then if v2.1 = 0 then (rd v4.2 78 1 0).bind fun v8 => if (lg_cmp v8.toInt64 v4.1.toInt64) = 0 then some (.inl v4.2) else some (.inr ()) else some (.inl v4.2) else some (.inr ())
theorem ok_case_19 {γ : GG} {F : Nat} {i : Int32} {g : Mem} {b : Nat × Nat} {Φ : PO} {r : Mem ⊕ Unit} (h : sp_case_19 F (gS γ).2.1 (gS γ).2.2 i g = some r) (hr : RQ (fun g9 => WA γ M_Law_main 130 2313 (lwL i) [] SH g9 false b Φ) (fun _ => False) r) : WA γ M_Law_main 130 1285 (lwL i) [] SH g false (1 + b.1, 6 + b.2) Φ := by
  unfold sp_case_19 at h
  refine w_aload_n (q := 1286) d_Law_main_1285 rfl rfl ?_
  refine w_aload_n (q := 1287) d_Law_main_1286 rfl rfl ?_
  refine w_iload (q := 1289) d_Law_main_1287 rfl rfl ?_
  refine w_iconst (q := 1290) (v := 1) d_Law_main_1289 rfl (by decide) ?_
  refine w_iadd (q := 1291) d_Law_main_1290 rfl ?_
  obtain ⟨v1, hv, h⟩ := bnd h
  obtain ⟨hi, hv⟩ := rx_ok hv
  refine w_sld (q := 1292) d_Law_main_1291 rfl hi ?_
  rw [hv]
  refine w_aload_n (q := 1293) d_Law_main_1292 rfl rfl ?_
  obtain ⟨v2, hv, h⟩ := bnd h
  refine w_callHi (q := 1296) (M' := M_Law_owed) (n' := 5) (As := [.ref 0, .int v1, .ref 78]) (sh' := SH) (b1 := (1, 6)) (b2 := b) d_Law_main_1293 rfl mw_Law_owed (by decide) (by decide) ml_Law_184 rfl rfl (leb rfl) rfl (fun h9 => absurd h9 (by decide)) (ok_Law_owed hv) ?_
  refine w_istore (q := 1298) (ls' := [some (.ref 2097152), some (.ref 0), some (.ref 54), some (.ref 78), some (.int i), some (.int v2.1), none]) d_Law_main_1296 rfl (by decide) rfl rfl ?_
  refine w_aload_n (q := 1299) d_Law_main_1298 rfl rfl ?_
  refine w_aload_n (q := 1300) d_Law_main_1299 rfl rfl ?_
  refine w_iload (q := 1302) d_Law_main_1300 rfl rfl ?_
  refine w_iconst (q := 1303) (v := 1) d_Law_main_1302 rfl (by decide) ?_
  refine w_iadd (q := 1304) d_Law_main_1303 rfl ?_
  obtain ⟨v3, hv, h⟩ := bnd h
  obtain ⟨hi, hv⟩ := rx_ok hv
  refine w_sld (q := 1305) d_Law_main_1304 rfl hi ?_
  rw [hv]
  obtain ⟨v4, hv, h⟩ := bnd h
  refine w_callVi (q := 1308) (M' := M_Model_owed) (n' := 3) (k := 54) (As := [.int v3]) (sh' := SH) (b1 := (0, 0)) d_Law_main_1305 rfl mw_Model_owed (by decide) (by decide) ml_Law_186 (by decide) s_54 (by decide) rfl rfl rfl (leb rfl) (bz _) (fun _ => rfl) (ok_Model_owed hv) ?_
  refine w_istore (q := 1310) (ls' := [some (.ref 2097152), some (.ref 0), some (.ref 54), some (.ref 78), some (.int i), some (.int v2.1), some (.int v4.1)]) d_Law_main_1308 rfl (by decide) rfl rfl ?_
  refine w_aload_n (q := 1311) d_Law_main_1310 rfl rfl ?_
  obtain ⟨v5, hv, h⟩ := bnd h
  refine w_callVi (q := 1314) (M' := M_Model_thrown) (n' := 0) (k := 54) (As := []) (sh' := SH) (b1 := (0, 0)) d_Law_main_1311 rfl mw_Model_thrown (by decide) (by decide) ml_Law_122 (by decide) s_54 (by decide) rfl rfl rfl (leb rfl) (bz _) (fun _ => rfl) (ok_Model_thrown hv) ?_
  refine w_iload (q := 1316) d_Law_main_1314 rfl rfl ?_
  by_cases c6 : v5 = v2.1
  · rw [if_pos c6] at h
    refine w_icmp_eq_t (q := 1321) d_Law_main_1316 rfl c6 ?_
    refine w_iload (q := 1323) d_Law_main_1321 rfl rfl ?_
    by_cases c7 : v2.1 = 0
    · rw [if_pos c7] at h
      refine w_if_ne_f (q := 1326) d_Law_main_1323 1338 rfl rfl c7 ?_
      refine w_aload_n (q := 1327) d_Law_main_1326 rfl rfl ?_
      refine w_iconst (q := 1328) (v := 0) d_Law_main_1327 rfl (by decide) ?_
      obtain ⟨v8, hv, h⟩ := bnd h
      obtain ⟨hi, hv⟩ := rd_ok hv
      refine w_lald (q := 1329) d_Law_main_1328 rfl l_78.2 l_78.1 hi ?_
      rw [hv]
      refine w_iload (q := 1331) d_Law_main_1329 rfl rfl ?_
      refine w_i2l (q := 1332) d_Law_main_1331 rfl ?_
      refine w_lcmp (q := 1333) d_Law_main_1332 rfl ?_
      by_cases c9 : (lg_cmp v8.toInt64 v4.1.toInt64) = 0
      · rw [if_pos c9] at h
        refine w_if_eq_t (q := 1338) d_Law_main_1333 rfl c9 ?_
        refine w_goto (q := 2313) d_Law_main_1338 rfl ?_
        cases h
        refine w_ls (ls' := [some (.ref 2097152), some (.ref 0), some (.ref 54), some (.ref 78), some (.int i), none, none]) (And.intro rfl (And.intro rfl (And.intro rfl (And.intro rfl (And.intro rfl trivial))))) ?_
        exact hr
      · rw [if_neg c9] at h
        refine w_if_eq_f (q := 1336) d_Law_main_1333 1338 rfl rfl c9 ?_
        refine w_iconst (q := 1337) (v := 0) d_Law_main_1336 rfl (by decide) ?_
        cases h
        exact hr.elim
    · rw [if_neg c7] at h
      refine w_if_ne_t (q := 1338) d_Law_main_1323 rfl c7 ?_
      refine w_goto (q := 2313) d_Law_main_1338 rfl ?_
      cases h
      refine w_ls (ls' := [some (.ref 2097152), some (.ref 0), some (.ref 54), some (.ref 78), some (.int i), none, none]) (And.intro rfl (And.intro rfl (And.intro rfl (And.intro rfl (And.intro rfl trivial))))) ?_
      exact hr
  · rw [if_neg c6] at h
    refine w_icmp_eq_f (q := 1319) d_Law_main_1316 1321 rfl rfl c6 ?_
    refine w_iconst (q := 1320) (v := 0) d_Law_main_1319 rfl (by decide) ?_
    cases h
    exact hr.elim
def sp_case_20 (F L : Nat) (xs : Nat → Int32) (i : Int32) (g : Mem) : Option (Mem ⊕ Unit) := (sp_Hall_cover F g).bind fun v1 => (sp_Model_cover F v1.2).bind fun v2 => if v1.1 = v2.1 then some (.inl v2.2) else some (.inr ())
theorem ok_case_20 {γ : GG} {F : Nat} {i : Int32} {g : Mem} {b : Nat × Nat} {Φ : PO} {r : Mem ⊕ Unit} (h : sp_case_20 F (gS γ).2.1 (gS γ).2.2 i g = some r) (hr : RQ (fun g9 => WA γ M_Law_main 130 2313 (lwL i) [] SH g9 false b Φ) (fun _ => False) r) : WA γ M_Law_main 130 1341 (lwL i) [] SH g false (1 + b.1, 6 + b.2) Φ := by
  unfold sp_case_20 at h
  refine w_aload_n (q := 1342) d_Law_main_1341 rfl rfl ?_
  obtain ⟨v1, hv, h⟩ := bnd h
  refine w_callVi (q := 1345) (M' := M_Hall_cover) (n' := 4) (k := 0) (As := []) (sh' := SH) (b1 := (0, 0)) d_Law_main_1342 rfl mw_Hall_cover (by decide) (by decide) ml_Law_187 (by decide) s_0 (by decide) rfl rfl rfl (leb rfl) (bz _) (fun _ => rfl) (ok_Hall_cover hv) ?_
  refine w_aload_n (q := 1346) d_Law_main_1345 rfl rfl ?_
  obtain ⟨v2, hv, h⟩ := bnd h
  refine w_callVi (q := 1349) (M' := M_Model_cover) (n' := 3) (k := 54) (As := []) (sh' := SH) (b1 := (0, 0)) d_Law_main_1346 rfl mw_Model_cover (by decide) (by decide) ml_Law_190 (by decide) s_54 (by decide) rfl rfl rfl (leb rfl) (bz _) (fun _ => rfl) (ok_Model_cover hv) ?_
  by_cases c3 : v1.1 = v2.1
  · rw [if_pos c3] at h
    refine w_icmp_eq_t (q := 2313) d_Law_main_1349 rfl c3 ?_
    cases h
    refine w_ls (ls' := [some (.ref 2097152), some (.ref 0), some (.ref 54), some (.ref 78), some (.int i), none, none]) (And.intro rfl (And.intro rfl (And.intro rfl (And.intro rfl (And.intro rfl trivial))))) ?_
    exact w_wide (Nat.le_add_left _ _) (Nat.le_add_left _ _) hr
  · rw [if_neg c3] at h
    refine w_icmp_eq_f (q := 1352) d_Law_main_1349 2313 rfl rfl c3 ?_
    refine w_iconst (q := 1353) (v := 0) d_Law_main_1352 rfl (by decide) ?_
    cases h
    exact hr.elim
def sp_case_21 (F L : Nat) (xs : Nat → Int32) (i : Int32) (g : Mem) : Option (Mem ⊕ Unit) := (sp_Hall_alone F g).bind fun v1 => (sp_Model_alone F g).bind fun v2 => if v1 = v2.1 then some (.inl v2.2) else some (.inr ())
theorem ok_case_21 {γ : GG} {F : Nat} {i : Int32} {g : Mem} {b : Nat × Nat} {Φ : PO} {r : Mem ⊕ Unit} (h : sp_case_21 F (gS γ).2.1 (gS γ).2.2 i g = some r) (hr : RQ (fun g9 => WA γ M_Law_main 130 2313 (lwL i) [] SH g9 false b Φ) (fun _ => False) r) : WA γ M_Law_main 130 1354 (lwL i) [] SH g false (1 + b.1, 6 + b.2) Φ := by
  unfold sp_case_21 at h
  refine w_aload_n (q := 1355) d_Law_main_1354 rfl rfl ?_
  obtain ⟨v1, hv, h⟩ := bnd h
  refine w_callVi (q := 1358) (M' := M_Hall_alone) (n' := 4) (k := 0) (As := []) (sh' := SH) (b1 := (0, 0)) d_Law_main_1355 rfl mw_Hall_alone (by decide) (by decide) ml_Law_191 (by decide) s_0 (by decide) rfl rfl rfl (leb rfl) (bz _) (fun _ => rfl) (ok_Hall_alone hv) ?_
  refine w_aload_n (q := 1359) d_Law_main_1358 rfl rfl ?_
  obtain ⟨v2, hv, h⟩ := bnd h
  refine w_callVi (q := 1362) (M' := M_Model_alone) (n' := 3) (k := 54) (As := []) (sh' := SH) (b1 := (0, 0)) d_Law_main_1359 rfl mw_Model_alone (by decide) (by decide) ml_Law_194 (by decide) s_54 (by decide) rfl rfl rfl (leb rfl) (bz _) (fun _ => rfl) (ok_Model_alone hv) ?_
  by_cases c3 : v1 = v2.1
  · rw [if_pos c3] at h
    refine w_icmp_eq_t (q := 2313) d_Law_main_1362 rfl c3 ?_
    cases h
    refine w_ls (ls' := [some (.ref 2097152), some (.ref 0), some (.ref 54), some (.ref 78), some (.int i), none, none]) (And.intro rfl (And.intro rfl (And.intro rfl (And.intro rfl (And.intro rfl trivial))))) ?_
    exact w_wide (Nat.le_add_left _ _) (Nat.le_add_left _ _) hr
  · rw [if_neg c3] at h
    refine w_icmp_eq_f (q := 1365) d_Law_main_1362 2313 rfl rfl c3 ?_
    refine w_iconst (q := 1366) (v := 0) d_Law_main_1365 rfl (by decide) ?_
    cases h
    exact hr.elim
def sp_case_22 (F L : Nat) (xs : Nat → Int32) (i : Int32) (g : Mem) : Option (Mem ⊕ Unit) := (rx L xs (i + 1)).bind fun v1 => (sp_Law_barbers F v1 g).bind fun v2 => (rx L xs (i + 1)).bind fun v3 => (sp_Model_barbers F v3 v2.2).bind fun v4 => (sp_Model_thrown v4.2).bind fun v5 => if v5 = v2.1 then if v2.1 = 0 then (rd v4.2 78 1 0).bind fun v8 => if (lg_cmp v8.toInt64 v4.1.toInt64) = 0 then some (.inl v4.2) else some (.inr ()) else some (.inl v4.2) else some (.inr ())
theorem ok_case_22 {γ : GG} {F : Nat} {i : Int32} {g : Mem} {b : Nat × Nat} {Φ : PO} {r : Mem ⊕ Unit} (h : sp_case_22 F (gS γ).2.1 (gS γ).2.2 i g = some r) (hr : RQ (fun g9 => WA γ M_Law_main 130 2313 (lwL i) [] SH g9 false b Φ) (fun _ => False) r) : WA γ M_Law_main 130 1367 (lwL i) [] SH g false (1 + b.1, 6 + b.2) Φ := by
  unfold sp_case_22 at h
  refine w_aload_n (q := 1368) d_Law_main_1367 rfl rfl ?_
  refine w_aload_n (q := 1369) d_Law_main_1368 rfl rfl ?_
  refine w_iload (q := 1371) d_Law_main_1369 rfl rfl ?_
  refine w_iconst (q := 1372) (v := 1) d_Law_main_1371 rfl (by decide) ?_
  refine w_iadd (q := 1373) d_Law_main_1372 rfl ?_
  obtain ⟨v1, hv, h⟩ := bnd h
  obtain ⟨hi, hv⟩ := rx_ok hv
  refine w_sld (q := 1374) d_Law_main_1373 rfl hi ?_
  rw [hv]
  refine w_aload_n (q := 1375) d_Law_main_1374 rfl rfl ?_
  obtain ⟨v2, hv, h⟩ := bnd h
  refine w_callHi (q := 1378) (M' := M_Law_barbers) (n' := 7) (As := [.ref 0, .int v1, .ref 78]) (sh' := SH) (b1 := (1, 6)) (b2 := b) d_Law_main_1375 rfl mw_Law_barbers (by decide) (by decide) ml_Law_195 rfl rfl (leb rfl) rfl (fun h9 => absurd h9 (by decide)) (ok_Law_barbers hv) ?_
  refine w_istore (q := 1380) (ls' := [some (.ref 2097152), some (.ref 0), some (.ref 54), some (.ref 78), some (.int i), some (.int v2.1), none]) d_Law_main_1378 rfl (by decide) rfl rfl ?_
  refine w_aload_n (q := 1381) d_Law_main_1380 rfl rfl ?_
  refine w_aload_n (q := 1382) d_Law_main_1381 rfl rfl ?_
  refine w_iload (q := 1384) d_Law_main_1382 rfl rfl ?_
  refine w_iconst (q := 1385) (v := 1) d_Law_main_1384 rfl (by decide) ?_
  refine w_iadd (q := 1386) d_Law_main_1385 rfl ?_
  obtain ⟨v3, hv, h⟩ := bnd h
  obtain ⟨hi, hv⟩ := rx_ok hv
  refine w_sld (q := 1387) d_Law_main_1386 rfl hi ?_
  rw [hv]
  obtain ⟨v4, hv, h⟩ := bnd h
  refine w_callVi (q := 1390) (M' := M_Model_barbers) (n' := 6) (k := 54) (As := [.int v3]) (sh' := SH) (b1 := (0, 0)) d_Law_main_1387 rfl mw_Model_barbers (by decide) (by decide) ml_Law_197 (by decide) s_54 (by decide) rfl rfl rfl (leb rfl) (bz _) (fun _ => rfl) (ok_Model_barbers hv) ?_
  refine w_istore (q := 1392) (ls' := [some (.ref 2097152), some (.ref 0), some (.ref 54), some (.ref 78), some (.int i), some (.int v2.1), some (.int v4.1)]) d_Law_main_1390 rfl (by decide) rfl rfl ?_
  refine w_aload_n (q := 1393) d_Law_main_1392 rfl rfl ?_
  obtain ⟨v5, hv, h⟩ := bnd h
  refine w_callVi (q := 1396) (M' := M_Model_thrown) (n' := 0) (k := 54) (As := []) (sh' := SH) (b1 := (0, 0)) d_Law_main_1393 rfl mw_Model_thrown (by decide) (by decide) ml_Law_122 (by decide) s_54 (by decide) rfl rfl rfl (leb rfl) (bz _) (fun _ => rfl) (ok_Model_thrown hv) ?_
  refine w_iload (q := 1398) d_Law_main_1396 rfl rfl ?_
  by_cases c6 : v5 = v2.1
  · rw [if_pos c6] at h
    refine w_icmp_eq_t (q := 1403) d_Law_main_1398 rfl c6 ?_
    refine w_iload (q := 1405) d_Law_main_1403 rfl rfl ?_
    by_cases c7 : v2.1 = 0
    · rw [if_pos c7] at h
      refine w_if_ne_f (q := 1408) d_Law_main_1405 1420 rfl rfl c7 ?_
      refine w_aload_n (q := 1409) d_Law_main_1408 rfl rfl ?_
      refine w_iconst (q := 1410) (v := 0) d_Law_main_1409 rfl (by decide) ?_
      obtain ⟨v8, hv, h⟩ := bnd h
      obtain ⟨hi, hv⟩ := rd_ok hv
      refine w_lald (q := 1411) d_Law_main_1410 rfl l_78.2 l_78.1 hi ?_
      rw [hv]
      refine w_iload (q := 1413) d_Law_main_1411 rfl rfl ?_
      refine w_i2l (q := 1414) d_Law_main_1413 rfl ?_
      refine w_lcmp (q := 1415) d_Law_main_1414 rfl ?_
      by_cases c9 : (lg_cmp v8.toInt64 v4.1.toInt64) = 0
      · rw [if_pos c9] at h
        refine w_if_eq_t (q := 1420) d_Law_main_1415 rfl c9 ?_
        refine w_goto (q := 2313) d_Law_main_1420 rfl ?_
        cases h
        refine w_ls (ls' := [some (.ref 2097152), some (.ref 0), some (.ref 54), some (.ref 78), some (.int i), none, none]) (And.intro rfl (And.intro rfl (And.intro rfl (And.intro rfl (And.intro rfl trivial))))) ?_
        exact hr
      · rw [if_neg c9] at h
        refine w_if_eq_f (q := 1418) d_Law_main_1415 1420 rfl rfl c9 ?_
        refine w_iconst (q := 1419) (v := 0) d_Law_main_1418 rfl (by decide) ?_
        cases h
        exact hr.elim
    · rw [if_neg c7] at h
      refine w_if_ne_t (q := 1420) d_Law_main_1405 rfl c7 ?_
      refine w_goto (q := 2313) d_Law_main_1420 rfl ?_
      cases h
      refine w_ls (ls' := [some (.ref 2097152), some (.ref 0), some (.ref 54), some (.ref 78), some (.int i), none, none]) (And.intro rfl (And.intro rfl (And.intro rfl (And.intro rfl (And.intro rfl trivial))))) ?_
      exact hr
  · rw [if_neg c6] at h
    refine w_icmp_eq_f (q := 1401) d_Law_main_1398 1403 rfl rfl c6 ?_
    refine w_iconst (q := 1402) (v := 0) d_Law_main_1401 rfl (by decide) ?_
    cases h
    exact hr.elim
def sp_case_23 (F L : Nat) (xs : Nat → Int32) (i : Int32) (g : Mem) : Option (Mem ⊕ Unit) := (rx L xs (i + 1)).bind fun v1 => (sp_Law_shortest F v1 g).bind fun v2 => (rx L xs (i + 1)).bind fun v3 => (sp_Model_shortest F v3 v2.2).bind fun v4 => (sp_Model_thrown v4.2).bind fun v5 => if v5 = v2.1 then if v2.1 = 0 then (rd v4.2 78 1 0).bind fun v8 => if (lg_cmp v8.toInt64 v4.1.toInt64) = 0 then some (.inl v4.2) else some (.inr ()) else some (.inl v4.2) else some (.inr ())
theorem ok_case_23 {γ : GG} {F : Nat} {i : Int32} {g : Mem} {b : Nat × Nat} {Φ : PO} {r : Mem ⊕ Unit} (h : sp_case_23 F (gS γ).2.1 (gS γ).2.2 i g = some r) (hr : RQ (fun g9 => WA γ M_Law_main 130 2313 (lwL i) [] SH g9 false b Φ) (fun _ => False) r) : WA γ M_Law_main 130 1423 (lwL i) [] SH g false (1 + b.1, 6 + b.2) Φ := by
  unfold sp_case_23 at h
  refine w_aload_n (q := 1424) d_Law_main_1423 rfl rfl ?_
  refine w_aload_n (q := 1425) d_Law_main_1424 rfl rfl ?_
  refine w_iload (q := 1427) d_Law_main_1425 rfl rfl ?_
  refine w_iconst (q := 1428) (v := 1) d_Law_main_1427 rfl (by decide) ?_
  refine w_iadd (q := 1429) d_Law_main_1428 rfl ?_
  obtain ⟨v1, hv, h⟩ := bnd h
  obtain ⟨hi, hv⟩ := rx_ok hv
  refine w_sld (q := 1430) d_Law_main_1429 rfl hi ?_
  rw [hv]
  refine w_aload_n (q := 1431) d_Law_main_1430 rfl rfl ?_
  obtain ⟨v2, hv, h⟩ := bnd h
  refine w_callHi (q := 1434) (M' := M_Law_shortest) (n' := 6) (As := [.ref 0, .int v1, .ref 78]) (sh' := SH) (b1 := (1, 6)) (b2 := b) d_Law_main_1431 rfl mw_Law_shortest (by decide) (by decide) ml_Law_198 rfl rfl (leb rfl) rfl (fun h9 => absurd h9 (by decide)) (ok_Law_shortest hv) ?_
  refine w_istore (q := 1436) (ls' := [some (.ref 2097152), some (.ref 0), some (.ref 54), some (.ref 78), some (.int i), some (.int v2.1), none]) d_Law_main_1434 rfl (by decide) rfl rfl ?_
  refine w_aload_n (q := 1437) d_Law_main_1436 rfl rfl ?_
  refine w_aload_n (q := 1438) d_Law_main_1437 rfl rfl ?_
  refine w_iload (q := 1440) d_Law_main_1438 rfl rfl ?_
  refine w_iconst (q := 1441) (v := 1) d_Law_main_1440 rfl (by decide) ?_
  refine w_iadd (q := 1442) d_Law_main_1441 rfl ?_
  obtain ⟨v3, hv, h⟩ := bnd h
  obtain ⟨hi, hv⟩ := rx_ok hv
  refine w_sld (q := 1443) d_Law_main_1442 rfl hi ?_
  rw [hv]
  obtain ⟨v4, hv, h⟩ := bnd h
  refine w_callVi (q := 1446) (M' := M_Model_shortest) (n' := 5) (k := 54) (As := [.int v3]) (sh' := SH) (b1 := (0, 0)) d_Law_main_1443 rfl mw_Model_shortest (by decide) (by decide) ml_Law_200 (by decide) s_54 (by decide) rfl rfl rfl (leb rfl) (bz _) (fun _ => rfl) (ok_Model_shortest hv) ?_
  refine w_istore (q := 1448) (ls' := [some (.ref 2097152), some (.ref 0), some (.ref 54), some (.ref 78), some (.int i), some (.int v2.1), some (.int v4.1)]) d_Law_main_1446 rfl (by decide) rfl rfl ?_
  refine w_aload_n (q := 1449) d_Law_main_1448 rfl rfl ?_
  obtain ⟨v5, hv, h⟩ := bnd h
  refine w_callVi (q := 1452) (M' := M_Model_thrown) (n' := 0) (k := 54) (As := []) (sh' := SH) (b1 := (0, 0)) d_Law_main_1449 rfl mw_Model_thrown (by decide) (by decide) ml_Law_122 (by decide) s_54 (by decide) rfl rfl rfl (leb rfl) (bz _) (fun _ => rfl) (ok_Model_thrown hv) ?_
  refine w_iload (q := 1454) d_Law_main_1452 rfl rfl ?_
  by_cases c6 : v5 = v2.1
  · rw [if_pos c6] at h
    refine w_icmp_eq_t (q := 1459) d_Law_main_1454 rfl c6 ?_
    refine w_iload (q := 1461) d_Law_main_1459 rfl rfl ?_
    by_cases c7 : v2.1 = 0
    · rw [if_pos c7] at h
      refine w_if_ne_f (q := 1464) d_Law_main_1461 1476 rfl rfl c7 ?_
      refine w_aload_n (q := 1465) d_Law_main_1464 rfl rfl ?_
      refine w_iconst (q := 1466) (v := 0) d_Law_main_1465 rfl (by decide) ?_
      obtain ⟨v8, hv, h⟩ := bnd h
      obtain ⟨hi, hv⟩ := rd_ok hv
      refine w_lald (q := 1467) d_Law_main_1466 rfl l_78.2 l_78.1 hi ?_
      rw [hv]
      refine w_iload (q := 1469) d_Law_main_1467 rfl rfl ?_
      refine w_i2l (q := 1470) d_Law_main_1469 rfl ?_
      refine w_lcmp (q := 1471) d_Law_main_1470 rfl ?_
      by_cases c9 : (lg_cmp v8.toInt64 v4.1.toInt64) = 0
      · rw [if_pos c9] at h
        refine w_if_eq_t (q := 1476) d_Law_main_1471 rfl c9 ?_
        refine w_goto (q := 2313) d_Law_main_1476 rfl ?_
        cases h
        refine w_ls (ls' := [some (.ref 2097152), some (.ref 0), some (.ref 54), some (.ref 78), some (.int i), none, none]) (And.intro rfl (And.intro rfl (And.intro rfl (And.intro rfl (And.intro rfl trivial))))) ?_
        exact hr
      · rw [if_neg c9] at h
        refine w_if_eq_f (q := 1474) d_Law_main_1471 1476 rfl rfl c9 ?_
        refine w_iconst (q := 1475) (v := 0) d_Law_main_1474 rfl (by decide) ?_
        cases h
        exact hr.elim
    · rw [if_neg c7] at h
      refine w_if_ne_t (q := 1476) d_Law_main_1461 rfl c7 ?_
      refine w_goto (q := 2313) d_Law_main_1476 rfl ?_
      cases h
      refine w_ls (ls' := [some (.ref 2097152), some (.ref 0), some (.ref 54), some (.ref 78), some (.int i), none, none]) (And.intro rfl (And.intro rfl (And.intro rfl (And.intro rfl (And.intro rfl trivial))))) ?_
      exact hr
  · rw [if_neg c6] at h
    refine w_icmp_eq_f (q := 1457) d_Law_main_1454 1459 rfl rfl c6 ?_
    refine w_iconst (q := 1458) (v := 0) d_Law_main_1457 rfl (by decide) ?_
    cases h
    exact hr.elim
def sp_case_24 (F L : Nat) (xs : Nat → Int32) (i : Int32) (g : Mem) : Option (Mem ⊕ Unit) := (rx L xs (i + 1)).bind fun v1 => (rx L xs (i + 2)).bind fun v2 => (rx L xs (i + 3)).bind fun v3 => (sp_Law_amnesty F v1 v2 v3 g).bind fun v4 => (rx L xs (i + 1)).bind fun v5 => (rx L xs (i + 2)).bind fun v6 => (rx L xs (i + 3)).bind fun v7 => (sp_Model_amnesty F v5 v6 v7 v4.2).bind fun v8 => (sp_Model_thrown v8.2).bind fun v9 => if v9 = v4.1 then if v4.1 = 0 then (rd v8.2 78 1 0).bind fun v12 => if (lg_cmp v12.toInt64 v8.1.toInt64) = 0 then some (.inl v8.2) else some (.inr ()) else some (.inl v8.2) else some (.inr ())
theorem ok_case_24 {γ : GG} {F : Nat} {i : Int32} {g : Mem} {b : Nat × Nat} {Φ : PO} {r : Mem ⊕ Unit} (h : sp_case_24 F (gS γ).2.1 (gS γ).2.2 i g = some r) (hr : RQ (fun g9 => WA γ M_Law_main 130 2313 (lwL i) [] SH g9 false b Φ) (fun _ => False) r) : WA γ M_Law_main 130 1479 (lwL i) [] SH g false (1 + b.1, 6 + b.2) Φ := by
  unfold sp_case_24 at h
  refine w_aload_n (q := 1480) d_Law_main_1479 rfl rfl ?_
  refine w_aload_n (q := 1481) d_Law_main_1480 rfl rfl ?_
  refine w_iload (q := 1483) d_Law_main_1481 rfl rfl ?_
  refine w_iconst (q := 1484) (v := 1) d_Law_main_1483 rfl (by decide) ?_
  refine w_iadd (q := 1485) d_Law_main_1484 rfl ?_
  obtain ⟨v1, hv, h⟩ := bnd h
  obtain ⟨hi, hv⟩ := rx_ok hv
  refine w_sld (q := 1486) d_Law_main_1485 rfl hi ?_
  rw [hv]
  refine w_aload_n (q := 1487) d_Law_main_1486 rfl rfl ?_
  refine w_iload (q := 1489) d_Law_main_1487 rfl rfl ?_
  refine w_iconst (q := 1490) (v := 2) d_Law_main_1489 rfl (by decide) ?_
  refine w_iadd (q := 1491) d_Law_main_1490 rfl ?_
  obtain ⟨v2, hv, h⟩ := bnd h
  obtain ⟨hi, hv⟩ := rx_ok hv
  refine w_sld (q := 1492) d_Law_main_1491 rfl hi ?_
  rw [hv]
  refine w_aload_n (q := 1493) d_Law_main_1492 rfl rfl ?_
  refine w_iload (q := 1495) d_Law_main_1493 rfl rfl ?_
  refine w_iconst (q := 1496) (v := 3) d_Law_main_1495 rfl (by decide) ?_
  refine w_iadd (q := 1497) d_Law_main_1496 rfl ?_
  obtain ⟨v3, hv, h⟩ := bnd h
  obtain ⟨hi, hv⟩ := rx_ok hv
  refine w_sld (q := 1498) d_Law_main_1497 rfl hi ?_
  rw [hv]
  refine w_aload_n (q := 1499) d_Law_main_1498 rfl rfl ?_
  obtain ⟨v4, hv, h⟩ := bnd h
  refine w_callHi (q := 1502) (M' := M_Law_amnesty) (n' := 7) (As := [.ref 0, .int v1, .int v2, .int v3, .ref 78]) (sh' := SH) (b1 := (1, 6)) (b2 := b) d_Law_main_1499 rfl mw_Law_amnesty (by decide) (by decide) ml_Law_201 rfl rfl (leb rfl) rfl (fun h9 => absurd h9 (by decide)) (ok_Law_amnesty hv) ?_
  refine w_istore (q := 1504) (ls' := [some (.ref 2097152), some (.ref 0), some (.ref 54), some (.ref 78), some (.int i), some (.int v4.1), none]) d_Law_main_1502 rfl (by decide) rfl rfl ?_
  refine w_aload_n (q := 1505) d_Law_main_1504 rfl rfl ?_
  refine w_aload_n (q := 1506) d_Law_main_1505 rfl rfl ?_
  refine w_iload (q := 1508) d_Law_main_1506 rfl rfl ?_
  refine w_iconst (q := 1509) (v := 1) d_Law_main_1508 rfl (by decide) ?_
  refine w_iadd (q := 1510) d_Law_main_1509 rfl ?_
  obtain ⟨v5, hv, h⟩ := bnd h
  obtain ⟨hi, hv⟩ := rx_ok hv
  refine w_sld (q := 1511) d_Law_main_1510 rfl hi ?_
  rw [hv]
  refine w_aload_n (q := 1512) d_Law_main_1511 rfl rfl ?_
  refine w_iload (q := 1514) d_Law_main_1512 rfl rfl ?_
  refine w_iconst (q := 1515) (v := 2) d_Law_main_1514 rfl (by decide) ?_
  refine w_iadd (q := 1516) d_Law_main_1515 rfl ?_
  obtain ⟨v6, hv, h⟩ := bnd h
  obtain ⟨hi, hv⟩ := rx_ok hv
  refine w_sld (q := 1517) d_Law_main_1516 rfl hi ?_
  rw [hv]
  refine w_aload_n (q := 1518) d_Law_main_1517 rfl rfl ?_
  refine w_iload (q := 1520) d_Law_main_1518 rfl rfl ?_
  refine w_iconst (q := 1521) (v := 3) d_Law_main_1520 rfl (by decide) ?_
  refine w_iadd (q := 1522) d_Law_main_1521 rfl ?_
  obtain ⟨v7, hv, h⟩ := bnd h
  obtain ⟨hi, hv⟩ := rx_ok hv
  refine w_sld (q := 1523) d_Law_main_1522 rfl hi ?_
  rw [hv]
  obtain ⟨v8, hv, h⟩ := bnd h
  refine w_callVi (q := 1526) (M' := M_Model_amnesty) (n' := 5) (k := 54) (As := [.int v5, .int v6, .int v7]) (sh' := SH) (b1 := (0, 0)) d_Law_main_1523 rfl mw_Model_amnesty (by decide) (by decide) ml_Law_203 (by decide) s_54 (by decide) rfl rfl rfl (leb rfl) (bz _) (fun _ => rfl) (ok_Model_amnesty hv) ?_
  refine w_istore (q := 1528) (ls' := [some (.ref 2097152), some (.ref 0), some (.ref 54), some (.ref 78), some (.int i), some (.int v4.1), some (.int v8.1)]) d_Law_main_1526 rfl (by decide) rfl rfl ?_
  refine w_aload_n (q := 1529) d_Law_main_1528 rfl rfl ?_
  obtain ⟨v9, hv, h⟩ := bnd h
  refine w_callVi (q := 1532) (M' := M_Model_thrown) (n' := 0) (k := 54) (As := []) (sh' := SH) (b1 := (0, 0)) d_Law_main_1529 rfl mw_Model_thrown (by decide) (by decide) ml_Law_122 (by decide) s_54 (by decide) rfl rfl rfl (leb rfl) (bz _) (fun _ => rfl) (ok_Model_thrown hv) ?_
  refine w_iload (q := 1534) d_Law_main_1532 rfl rfl ?_
  by_cases c10 : v9 = v4.1
  · rw [if_pos c10] at h
    refine w_icmp_eq_t (q := 1539) d_Law_main_1534 rfl c10 ?_
    refine w_iload (q := 1541) d_Law_main_1539 rfl rfl ?_
    by_cases c11 : v4.1 = 0
    · rw [if_pos c11] at h
      refine w_if_ne_f (q := 1544) d_Law_main_1541 1556 rfl rfl c11 ?_
      refine w_aload_n (q := 1545) d_Law_main_1544 rfl rfl ?_
      refine w_iconst (q := 1546) (v := 0) d_Law_main_1545 rfl (by decide) ?_
      obtain ⟨v12, hv, h⟩ := bnd h
      obtain ⟨hi, hv⟩ := rd_ok hv
      refine w_lald (q := 1547) d_Law_main_1546 rfl l_78.2 l_78.1 hi ?_
      rw [hv]
      refine w_iload (q := 1549) d_Law_main_1547 rfl rfl ?_
      refine w_i2l (q := 1550) d_Law_main_1549 rfl ?_
      refine w_lcmp (q := 1551) d_Law_main_1550 rfl ?_
      by_cases c13 : (lg_cmp v12.toInt64 v8.1.toInt64) = 0
      · rw [if_pos c13] at h
        refine w_if_eq_t (q := 1556) d_Law_main_1551 rfl c13 ?_
        refine w_goto (q := 2313) d_Law_main_1556 rfl ?_
        cases h
        refine w_ls (ls' := [some (.ref 2097152), some (.ref 0), some (.ref 54), some (.ref 78), some (.int i), none, none]) (And.intro rfl (And.intro rfl (And.intro rfl (And.intro rfl (And.intro rfl trivial))))) ?_
        exact hr
      · rw [if_neg c13] at h
        refine w_if_eq_f (q := 1554) d_Law_main_1551 1556 rfl rfl c13 ?_
        refine w_iconst (q := 1555) (v := 0) d_Law_main_1554 rfl (by decide) ?_
        cases h
        exact hr.elim
    · rw [if_neg c11] at h
      refine w_if_ne_t (q := 1556) d_Law_main_1541 rfl c11 ?_
      refine w_goto (q := 2313) d_Law_main_1556 rfl ?_
      cases h
      refine w_ls (ls' := [some (.ref 2097152), some (.ref 0), some (.ref 54), some (.ref 78), some (.int i), none, none]) (And.intro rfl (And.intro rfl (And.intro rfl (And.intro rfl (And.intro rfl trivial))))) ?_
      exact hr
  · rw [if_neg c10] at h
    refine w_icmp_eq_f (q := 1537) d_Law_main_1534 1539 rfl rfl c10 ?_
    refine w_iconst (q := 1538) (v := 0) d_Law_main_1537 rfl (by decide) ?_
    cases h
    exact hr.elim
def sp_case_25 (F L : Nat) (xs : Nat → Int32) (i : Int32) (g : Mem) : Option (Mem ⊕ Unit) := (rx L xs (i + 1)).bind fun v1 => (rx L xs (i + 2)).bind fun v2 => (sp_Law_week F v1 v2 g).bind fun v3 => (rx L xs (i + 1)).bind fun v4 => (rx L xs (i + 2)).bind fun v5 => (sp_Model_week F v4 v5 v3.2).bind fun v6 => (sp_Model_thrown v6.2).bind fun v7 => if v7 = v3.1 then if v3.1 = 0 then (rd v6.2 78 1 0).bind fun v10 => if (lg_cmp v10.toInt64 v6.1.toInt64) = 0 then some (.inl v6.2) else some (.inr ()) else some (.inl v6.2) else some (.inr ())
theorem ok_case_25 {γ : GG} {F : Nat} {i : Int32} {g : Mem} {b : Nat × Nat} {Φ : PO} {r : Mem ⊕ Unit} (h : sp_case_25 F (gS γ).2.1 (gS γ).2.2 i g = some r) (hr : RQ (fun g9 => WA γ M_Law_main 130 2313 (lwL i) [] SH g9 false b Φ) (fun _ => False) r) : WA γ M_Law_main 130 1559 (lwL i) [] SH g false (1 + b.1, 6 + b.2) Φ := by
  unfold sp_case_25 at h
  refine w_aload_n (q := 1560) d_Law_main_1559 rfl rfl ?_
  refine w_aload_n (q := 1561) d_Law_main_1560 rfl rfl ?_
  refine w_iload (q := 1563) d_Law_main_1561 rfl rfl ?_
  refine w_iconst (q := 1564) (v := 1) d_Law_main_1563 rfl (by decide) ?_
  refine w_iadd (q := 1565) d_Law_main_1564 rfl ?_
  obtain ⟨v1, hv, h⟩ := bnd h
  obtain ⟨hi, hv⟩ := rx_ok hv
  refine w_sld (q := 1566) d_Law_main_1565 rfl hi ?_
  rw [hv]
  refine w_aload_n (q := 1567) d_Law_main_1566 rfl rfl ?_
  refine w_iload (q := 1569) d_Law_main_1567 rfl rfl ?_
  refine w_iconst (q := 1570) (v := 2) d_Law_main_1569 rfl (by decide) ?_
  refine w_iadd (q := 1571) d_Law_main_1570 rfl ?_
  obtain ⟨v2, hv, h⟩ := bnd h
  obtain ⟨hi, hv⟩ := rx_ok hv
  refine w_sld (q := 1572) d_Law_main_1571 rfl hi ?_
  rw [hv]
  refine w_aload_n (q := 1573) d_Law_main_1572 rfl rfl ?_
  obtain ⟨v3, hv, h⟩ := bnd h
  refine w_callHi (q := 1576) (M' := M_Law_week) (n' := 5) (As := [.ref 0, .int v1, .int v2, .ref 78]) (sh' := SH) (b1 := (1, 6)) (b2 := b) d_Law_main_1573 rfl mw_Law_week (by decide) (by decide) ml_Law_204 rfl rfl (leb rfl) rfl (fun h9 => absurd h9 (by decide)) (ok_Law_week hv) ?_
  refine w_istore (q := 1578) (ls' := [some (.ref 2097152), some (.ref 0), some (.ref 54), some (.ref 78), some (.int i), some (.int v3.1), none]) d_Law_main_1576 rfl (by decide) rfl rfl ?_
  refine w_aload_n (q := 1579) d_Law_main_1578 rfl rfl ?_
  refine w_aload_n (q := 1580) d_Law_main_1579 rfl rfl ?_
  refine w_iload (q := 1582) d_Law_main_1580 rfl rfl ?_
  refine w_iconst (q := 1583) (v := 1) d_Law_main_1582 rfl (by decide) ?_
  refine w_iadd (q := 1584) d_Law_main_1583 rfl ?_
  obtain ⟨v4, hv, h⟩ := bnd h
  obtain ⟨hi, hv⟩ := rx_ok hv
  refine w_sld (q := 1585) d_Law_main_1584 rfl hi ?_
  rw [hv]
  refine w_aload_n (q := 1586) d_Law_main_1585 rfl rfl ?_
  refine w_iload (q := 1588) d_Law_main_1586 rfl rfl ?_
  refine w_iconst (q := 1589) (v := 2) d_Law_main_1588 rfl (by decide) ?_
  refine w_iadd (q := 1590) d_Law_main_1589 rfl ?_
  obtain ⟨v5, hv, h⟩ := bnd h
  obtain ⟨hi, hv⟩ := rx_ok hv
  refine w_sld (q := 1591) d_Law_main_1590 rfl hi ?_
  rw [hv]
  obtain ⟨v6, hv, h⟩ := bnd h
  refine w_callVi (q := 1594) (M' := M_Model_week) (n' := 3) (k := 54) (As := [.int v4, .int v5]) (sh' := SH) (b1 := (0, 0)) d_Law_main_1591 rfl mw_Model_week (by decide) (by decide) ml_Law_206 (by decide) s_54 (by decide) rfl rfl rfl (leb rfl) (bz _) (fun _ => rfl) (ok_Model_week hv) ?_
  refine w_istore (q := 1596) (ls' := [some (.ref 2097152), some (.ref 0), some (.ref 54), some (.ref 78), some (.int i), some (.int v3.1), some (.int v6.1)]) d_Law_main_1594 rfl (by decide) rfl rfl ?_
  refine w_aload_n (q := 1597) d_Law_main_1596 rfl rfl ?_
  obtain ⟨v7, hv, h⟩ := bnd h
  refine w_callVi (q := 1600) (M' := M_Model_thrown) (n' := 0) (k := 54) (As := []) (sh' := SH) (b1 := (0, 0)) d_Law_main_1597 rfl mw_Model_thrown (by decide) (by decide) ml_Law_122 (by decide) s_54 (by decide) rfl rfl rfl (leb rfl) (bz _) (fun _ => rfl) (ok_Model_thrown hv) ?_
  refine w_iload (q := 1602) d_Law_main_1600 rfl rfl ?_
  by_cases c8 : v7 = v3.1
  · rw [if_pos c8] at h
    refine w_icmp_eq_t (q := 1607) d_Law_main_1602 rfl c8 ?_
    refine w_iload (q := 1609) d_Law_main_1607 rfl rfl ?_
    by_cases c9 : v3.1 = 0
    · rw [if_pos c9] at h
      refine w_if_ne_f (q := 1612) d_Law_main_1609 1624 rfl rfl c9 ?_
      refine w_aload_n (q := 1613) d_Law_main_1612 rfl rfl ?_
      refine w_iconst (q := 1614) (v := 0) d_Law_main_1613 rfl (by decide) ?_
      obtain ⟨v10, hv, h⟩ := bnd h
      obtain ⟨hi, hv⟩ := rd_ok hv
      refine w_lald (q := 1615) d_Law_main_1614 rfl l_78.2 l_78.1 hi ?_
      rw [hv]
      refine w_iload (q := 1617) d_Law_main_1615 rfl rfl ?_
      refine w_i2l (q := 1618) d_Law_main_1617 rfl ?_
      refine w_lcmp (q := 1619) d_Law_main_1618 rfl ?_
      by_cases c11 : (lg_cmp v10.toInt64 v6.1.toInt64) = 0
      · rw [if_pos c11] at h
        refine w_if_eq_t (q := 1624) d_Law_main_1619 rfl c11 ?_
        refine w_goto (q := 2313) d_Law_main_1624 rfl ?_
        cases h
        refine w_ls (ls' := [some (.ref 2097152), some (.ref 0), some (.ref 54), some (.ref 78), some (.int i), none, none]) (And.intro rfl (And.intro rfl (And.intro rfl (And.intro rfl (And.intro rfl trivial))))) ?_
        exact hr
      · rw [if_neg c11] at h
        refine w_if_eq_f (q := 1622) d_Law_main_1619 1624 rfl rfl c11 ?_
        refine w_iconst (q := 1623) (v := 0) d_Law_main_1622 rfl (by decide) ?_
        cases h
        exact hr.elim
    · rw [if_neg c9] at h
      refine w_if_ne_t (q := 1624) d_Law_main_1609 rfl c9 ?_
      refine w_goto (q := 2313) d_Law_main_1624 rfl ?_
      cases h
      refine w_ls (ls' := [some (.ref 2097152), some (.ref 0), some (.ref 54), some (.ref 78), some (.int i), none, none]) (And.intro rfl (And.intro rfl (And.intro rfl (And.intro rfl (And.intro rfl trivial))))) ?_
      exact hr
  · rw [if_neg c8] at h
    refine w_icmp_eq_f (q := 1605) d_Law_main_1602 1607 rfl rfl c8 ?_
    refine w_iconst (q := 1606) (v := 0) d_Law_main_1605 rfl (by decide) ?_
    cases h
    exact hr.elim
def sp_case_26 (F L : Nat) (xs : Nat → Int32) (i : Int32) (g : Mem) : Option (Mem ⊕ Unit) := (rx L xs (i + 1)).bind fun v1 => (rx L xs (i + 2)).bind fun v2 => (sp_Law_oldest F v1 v2 g).bind fun v3 => (rx L xs (i + 1)).bind fun v4 => (rx L xs (i + 2)).bind fun v5 => (sp_Model_oldest F v4 v5 v3.2).bind fun v6 => (sp_Model_thrown v6.2).bind fun v7 => if v7 = v3.1 then if v3.1 = 0 then (rd v6.2 78 1 0).bind fun v10 => if (lg_cmp v10.toInt64 v6.1.toInt64) = 0 then some (.inl v6.2) else some (.inr ()) else some (.inl v6.2) else some (.inr ())
theorem ok_case_26 {γ : GG} {F : Nat} {i : Int32} {g : Mem} {b : Nat × Nat} {Φ : PO} {r : Mem ⊕ Unit} (h : sp_case_26 F (gS γ).2.1 (gS γ).2.2 i g = some r) (hr : RQ (fun g9 => WA γ M_Law_main 130 2313 (lwL i) [] SH g9 false b Φ) (fun _ => False) r) : WA γ M_Law_main 130 1627 (lwL i) [] SH g false (1 + b.1, 6 + b.2) Φ := by
  unfold sp_case_26 at h
  refine w_aload_n (q := 1628) d_Law_main_1627 rfl rfl ?_
  refine w_aload_n (q := 1629) d_Law_main_1628 rfl rfl ?_
  refine w_iload (q := 1631) d_Law_main_1629 rfl rfl ?_
  refine w_iconst (q := 1632) (v := 1) d_Law_main_1631 rfl (by decide) ?_
  refine w_iadd (q := 1633) d_Law_main_1632 rfl ?_
  obtain ⟨v1, hv, h⟩ := bnd h
  obtain ⟨hi, hv⟩ := rx_ok hv
  refine w_sld (q := 1634) d_Law_main_1633 rfl hi ?_
  rw [hv]
  refine w_aload_n (q := 1635) d_Law_main_1634 rfl rfl ?_
  refine w_iload (q := 1637) d_Law_main_1635 rfl rfl ?_
  refine w_iconst (q := 1638) (v := 2) d_Law_main_1637 rfl (by decide) ?_
  refine w_iadd (q := 1639) d_Law_main_1638 rfl ?_
  obtain ⟨v2, hv, h⟩ := bnd h
  obtain ⟨hi, hv⟩ := rx_ok hv
  refine w_sld (q := 1640) d_Law_main_1639 rfl hi ?_
  rw [hv]
  refine w_aload_n (q := 1641) d_Law_main_1640 rfl rfl ?_
  obtain ⟨v3, hv, h⟩ := bnd h
  refine w_callHi (q := 1644) (M' := M_Law_oldest) (n' := 5) (As := [.ref 0, .int v1, .int v2, .ref 78]) (sh' := SH) (b1 := (1, 6)) (b2 := b) d_Law_main_1641 rfl mw_Law_oldest (by decide) (by decide) ml_Law_207 rfl rfl (leb rfl) rfl (fun h9 => absurd h9 (by decide)) (ok_Law_oldest hv) ?_
  refine w_istore (q := 1646) (ls' := [some (.ref 2097152), some (.ref 0), some (.ref 54), some (.ref 78), some (.int i), some (.int v3.1), none]) d_Law_main_1644 rfl (by decide) rfl rfl ?_
  refine w_aload_n (q := 1647) d_Law_main_1646 rfl rfl ?_
  refine w_aload_n (q := 1648) d_Law_main_1647 rfl rfl ?_
  refine w_iload (q := 1650) d_Law_main_1648 rfl rfl ?_
  refine w_iconst (q := 1651) (v := 1) d_Law_main_1650 rfl (by decide) ?_
  refine w_iadd (q := 1652) d_Law_main_1651 rfl ?_
  obtain ⟨v4, hv, h⟩ := bnd h
  obtain ⟨hi, hv⟩ := rx_ok hv
  refine w_sld (q := 1653) d_Law_main_1652 rfl hi ?_
  rw [hv]
  refine w_aload_n (q := 1654) d_Law_main_1653 rfl rfl ?_
  refine w_iload (q := 1656) d_Law_main_1654 rfl rfl ?_
  refine w_iconst (q := 1657) (v := 2) d_Law_main_1656 rfl (by decide) ?_
  refine w_iadd (q := 1658) d_Law_main_1657 rfl ?_
  obtain ⟨v5, hv, h⟩ := bnd h
  obtain ⟨hi, hv⟩ := rx_ok hv
  refine w_sld (q := 1659) d_Law_main_1658 rfl hi ?_
  rw [hv]
  obtain ⟨v6, hv, h⟩ := bnd h
  refine w_callVi (q := 1662) (M' := M_Model_oldest) (n' := 3) (k := 54) (As := [.int v4, .int v5]) (sh' := SH) (b1 := (0, 0)) d_Law_main_1659 rfl mw_Model_oldest (by decide) (by decide) ml_Law_209 (by decide) s_54 (by decide) rfl rfl rfl (leb rfl) (bz _) (fun _ => rfl) (ok_Model_oldest hv) ?_
  refine w_istore (q := 1664) (ls' := [some (.ref 2097152), some (.ref 0), some (.ref 54), some (.ref 78), some (.int i), some (.int v3.1), some (.int v6.1)]) d_Law_main_1662 rfl (by decide) rfl rfl ?_
  refine w_aload_n (q := 1665) d_Law_main_1664 rfl rfl ?_
  obtain ⟨v7, hv, h⟩ := bnd h
  refine w_callVi (q := 1668) (M' := M_Model_thrown) (n' := 0) (k := 54) (As := []) (sh' := SH) (b1 := (0, 0)) d_Law_main_1665 rfl mw_Model_thrown (by decide) (by decide) ml_Law_122 (by decide) s_54 (by decide) rfl rfl rfl (leb rfl) (bz _) (fun _ => rfl) (ok_Model_thrown hv) ?_
  refine w_iload (q := 1670) d_Law_main_1668 rfl rfl ?_
  by_cases c8 : v7 = v3.1
  · rw [if_pos c8] at h
    refine w_icmp_eq_t (q := 1675) d_Law_main_1670 rfl c8 ?_
    refine w_iload (q := 1677) d_Law_main_1675 rfl rfl ?_
    by_cases c9 : v3.1 = 0
    · rw [if_pos c9] at h
      refine w_if_ne_f (q := 1680) d_Law_main_1677 1692 rfl rfl c9 ?_
      refine w_aload_n (q := 1681) d_Law_main_1680 rfl rfl ?_
      refine w_iconst (q := 1682) (v := 0) d_Law_main_1681 rfl (by decide) ?_
      obtain ⟨v10, hv, h⟩ := bnd h
      obtain ⟨hi, hv⟩ := rd_ok hv
      refine w_lald (q := 1683) d_Law_main_1682 rfl l_78.2 l_78.1 hi ?_
      rw [hv]
      refine w_iload (q := 1685) d_Law_main_1683 rfl rfl ?_
      refine w_i2l (q := 1686) d_Law_main_1685 rfl ?_
      refine w_lcmp (q := 1687) d_Law_main_1686 rfl ?_
      by_cases c11 : (lg_cmp v10.toInt64 v6.1.toInt64) = 0
      · rw [if_pos c11] at h
        refine w_if_eq_t (q := 1692) d_Law_main_1687 rfl c11 ?_
        refine w_goto (q := 2313) d_Law_main_1692 rfl ?_
        cases h
        refine w_ls (ls' := [some (.ref 2097152), some (.ref 0), some (.ref 54), some (.ref 78), some (.int i), none, none]) (And.intro rfl (And.intro rfl (And.intro rfl (And.intro rfl (And.intro rfl trivial))))) ?_
        exact hr
      · rw [if_neg c11] at h
        refine w_if_eq_f (q := 1690) d_Law_main_1687 1692 rfl rfl c11 ?_
        refine w_iconst (q := 1691) (v := 0) d_Law_main_1690 rfl (by decide) ?_
        cases h
        exact hr.elim
    · rw [if_neg c9] at h
      refine w_if_ne_t (q := 1692) d_Law_main_1677 rfl c9 ?_
      refine w_goto (q := 2313) d_Law_main_1692 rfl ?_
      cases h
      refine w_ls (ls' := [some (.ref 2097152), some (.ref 0), some (.ref 54), some (.ref 78), some (.int i), none, none]) (And.intro rfl (And.intro rfl (And.intro rfl (And.intro rfl (And.intro rfl trivial))))) ?_
      exact hr
  · rw [if_neg c8] at h
    refine w_icmp_eq_f (q := 1673) d_Law_main_1670 1675 rfl rfl c8 ?_
    refine w_iconst (q := 1674) (v := 0) d_Law_main_1673 rfl (by decide) ?_
    cases h
    exact hr.elim
def sp_case_27 (F L : Nat) (xs : Nat → Int32) (i : Int32) (g : Mem) : Option (Mem ⊕ Unit) := (rx L xs (i + 1)).bind fun v1 => (sp_Law_believed F v1 g).bind fun v2 => (rx L xs (i + 1)).bind fun v3 => (sp_Model_believed F v3 v2.2).bind fun v4 => (sp_Model_thrown v4.2).bind fun v5 => if v5 = v2.1 then if v2.1 = 0 then (rd v4.2 78 1 0).bind fun v8 => if (lg_cmp v8.toInt64 v4.1.toInt64) = 0 then some (.inl v4.2) else some (.inr ()) else some (.inl v4.2) else some (.inr ())
theorem ok_case_27 {γ : GG} {F : Nat} {i : Int32} {g : Mem} {b : Nat × Nat} {Φ : PO} {r : Mem ⊕ Unit} (h : sp_case_27 F (gS γ).2.1 (gS γ).2.2 i g = some r) (hr : RQ (fun g9 => WA γ M_Law_main 130 2313 (lwL i) [] SH g9 false b Φ) (fun _ => False) r) : WA γ M_Law_main 130 1695 (lwL i) [] SH g false (1 + b.1, 6 + b.2) Φ := by
  unfold sp_case_27 at h
  refine w_aload_n (q := 1696) d_Law_main_1695 rfl rfl ?_
  refine w_aload_n (q := 1697) d_Law_main_1696 rfl rfl ?_
  refine w_iload (q := 1699) d_Law_main_1697 rfl rfl ?_
  refine w_iconst (q := 1700) (v := 1) d_Law_main_1699 rfl (by decide) ?_
  refine w_iadd (q := 1701) d_Law_main_1700 rfl ?_
  obtain ⟨v1, hv, h⟩ := bnd h
  obtain ⟨hi, hv⟩ := rx_ok hv
  refine w_sld (q := 1702) d_Law_main_1701 rfl hi ?_
  rw [hv]
  refine w_aload_n (q := 1703) d_Law_main_1702 rfl rfl ?_
  obtain ⟨v2, hv, h⟩ := bnd h
  refine w_callHi (q := 1706) (M' := M_Law_believed) (n' := 6) (As := [.ref 0, .int v1, .ref 78]) (sh' := SH) (b1 := (1, 6)) (b2 := b) d_Law_main_1703 rfl mw_Law_believed (by decide) (by decide) ml_Law_210 rfl rfl (leb rfl) rfl (fun h9 => absurd h9 (by decide)) (ok_Law_believed hv) ?_
  refine w_istore (q := 1708) (ls' := [some (.ref 2097152), some (.ref 0), some (.ref 54), some (.ref 78), some (.int i), some (.int v2.1), none]) d_Law_main_1706 rfl (by decide) rfl rfl ?_
  refine w_aload_n (q := 1709) d_Law_main_1708 rfl rfl ?_
  refine w_aload_n (q := 1710) d_Law_main_1709 rfl rfl ?_
  refine w_iload (q := 1712) d_Law_main_1710 rfl rfl ?_
  refine w_iconst (q := 1713) (v := 1) d_Law_main_1712 rfl (by decide) ?_
  refine w_iadd (q := 1714) d_Law_main_1713 rfl ?_
  obtain ⟨v3, hv, h⟩ := bnd h
  obtain ⟨hi, hv⟩ := rx_ok hv
  refine w_sld (q := 1715) d_Law_main_1714 rfl hi ?_
  rw [hv]
  obtain ⟨v4, hv, h⟩ := bnd h
  refine w_callVi (q := 1718) (M' := M_Model_believed) (n' := 4) (k := 54) (As := [.int v3]) (sh' := SH) (b1 := (0, 0)) d_Law_main_1715 rfl mw_Model_believed (by decide) (by decide) ml_Law_212 (by decide) s_54 (by decide) rfl rfl rfl (leb rfl) (bz _) (fun _ => rfl) (ok_Model_believed hv) ?_
  refine w_istore (q := 1720) (ls' := [some (.ref 2097152), some (.ref 0), some (.ref 54), some (.ref 78), some (.int i), some (.int v2.1), some (.int v4.1)]) d_Law_main_1718 rfl (by decide) rfl rfl ?_
  refine w_aload_n (q := 1721) d_Law_main_1720 rfl rfl ?_
  obtain ⟨v5, hv, h⟩ := bnd h
  refine w_callVi (q := 1724) (M' := M_Model_thrown) (n' := 0) (k := 54) (As := []) (sh' := SH) (b1 := (0, 0)) d_Law_main_1721 rfl mw_Model_thrown (by decide) (by decide) ml_Law_122 (by decide) s_54 (by decide) rfl rfl rfl (leb rfl) (bz _) (fun _ => rfl) (ok_Model_thrown hv) ?_
  refine w_iload (q := 1726) d_Law_main_1724 rfl rfl ?_
  by_cases c6 : v5 = v2.1
  · rw [if_pos c6] at h
    refine w_icmp_eq_t (q := 1731) d_Law_main_1726 rfl c6 ?_
    refine w_iload (q := 1733) d_Law_main_1731 rfl rfl ?_
    by_cases c7 : v2.1 = 0
    · rw [if_pos c7] at h
      refine w_if_ne_f (q := 1736) d_Law_main_1733 1748 rfl rfl c7 ?_
      refine w_aload_n (q := 1737) d_Law_main_1736 rfl rfl ?_
      refine w_iconst (q := 1738) (v := 0) d_Law_main_1737 rfl (by decide) ?_
      obtain ⟨v8, hv, h⟩ := bnd h
      obtain ⟨hi, hv⟩ := rd_ok hv
      refine w_lald (q := 1739) d_Law_main_1738 rfl l_78.2 l_78.1 hi ?_
      rw [hv]
      refine w_iload (q := 1741) d_Law_main_1739 rfl rfl ?_
      refine w_i2l (q := 1742) d_Law_main_1741 rfl ?_
      refine w_lcmp (q := 1743) d_Law_main_1742 rfl ?_
      by_cases c9 : (lg_cmp v8.toInt64 v4.1.toInt64) = 0
      · rw [if_pos c9] at h
        refine w_if_eq_t (q := 1748) d_Law_main_1743 rfl c9 ?_
        refine w_goto (q := 2313) d_Law_main_1748 rfl ?_
        cases h
        refine w_ls (ls' := [some (.ref 2097152), some (.ref 0), some (.ref 54), some (.ref 78), some (.int i), none, none]) (And.intro rfl (And.intro rfl (And.intro rfl (And.intro rfl (And.intro rfl trivial))))) ?_
        exact hr
      · rw [if_neg c9] at h
        refine w_if_eq_f (q := 1746) d_Law_main_1743 1748 rfl rfl c9 ?_
        refine w_iconst (q := 1747) (v := 0) d_Law_main_1746 rfl (by decide) ?_
        cases h
        exact hr.elim
    · rw [if_neg c7] at h
      refine w_if_ne_t (q := 1748) d_Law_main_1733 rfl c7 ?_
      refine w_goto (q := 2313) d_Law_main_1748 rfl ?_
      cases h
      refine w_ls (ls' := [some (.ref 2097152), some (.ref 0), some (.ref 54), some (.ref 78), some (.int i), none, none]) (And.intro rfl (And.intro rfl (And.intro rfl (And.intro rfl (And.intro rfl trivial))))) ?_
      exact hr
  · rw [if_neg c6] at h
    refine w_icmp_eq_f (q := 1729) d_Law_main_1726 1731 rfl rfl c6 ?_
    refine w_iconst (q := 1730) (v := 0) d_Law_main_1729 rfl (by decide) ?_
    cases h
    exact hr.elim
def sp_case_28 (F L : Nat) (xs : Nat → Int32) (i : Int32) (g : Mem) : Option (Mem ⊕ Unit) := (rx L xs (i + 1)).bind fun v1 => (sp_Law_until v1 g).bind fun v2 => (rx L xs (i + 1)).bind fun v3 => (sp_Model_until v3 v2.2).bind fun v4 => (sp_Model_thrown v4.2).bind fun v5 => if v5 = v2.1 then if v2.1 = 0 then (rd v4.2 78 1 0).bind fun v8 => if (lg_cmp v8.toInt64 v4.1.toInt64) = 0 then some (.inl v4.2) else some (.inr ()) else some (.inl v4.2) else some (.inr ())
theorem ok_case_28 {γ : GG} {F : Nat} {i : Int32} {g : Mem} {b : Nat × Nat} {Φ : PO} {r : Mem ⊕ Unit} (h : sp_case_28 F (gS γ).2.1 (gS γ).2.2 i g = some r) (hr : RQ (fun g9 => WA γ M_Law_main 130 2313 (lwL i) [] SH g9 false b Φ) (fun _ => False) r) : WA γ M_Law_main 130 1751 (lwL i) [] SH g false (1 + b.1, 6 + b.2) Φ := by
  unfold sp_case_28 at h
  refine w_aload_n (q := 1752) d_Law_main_1751 rfl rfl ?_
  refine w_aload_n (q := 1753) d_Law_main_1752 rfl rfl ?_
  refine w_iload (q := 1755) d_Law_main_1753 rfl rfl ?_
  refine w_iconst (q := 1756) (v := 1) d_Law_main_1755 rfl (by decide) ?_
  refine w_iadd (q := 1757) d_Law_main_1756 rfl ?_
  obtain ⟨v1, hv, h⟩ := bnd h
  obtain ⟨hi, hv⟩ := rx_ok hv
  refine w_sld (q := 1758) d_Law_main_1757 rfl hi ?_
  rw [hv]
  refine w_aload_n (q := 1759) d_Law_main_1758 rfl rfl ?_
  obtain ⟨v2, hv, h⟩ := bnd h
  refine w_callHi (q := 1762) (M' := M_Law_until) (n' := 4) (As := [.ref 0, .int v1, .ref 78]) (sh' := SH) (b1 := (1, 6)) (b2 := b) d_Law_main_1759 rfl mw_Law_until (by decide) (by decide) ml_Law_213 rfl rfl (leb rfl) rfl (fun h9 => absurd h9 (by decide)) (ok_Law_until hv) ?_
  refine w_istore (q := 1764) (ls' := [some (.ref 2097152), some (.ref 0), some (.ref 54), some (.ref 78), some (.int i), some (.int v2.1), none]) d_Law_main_1762 rfl (by decide) rfl rfl ?_
  refine w_aload_n (q := 1765) d_Law_main_1764 rfl rfl ?_
  refine w_aload_n (q := 1766) d_Law_main_1765 rfl rfl ?_
  refine w_iload (q := 1768) d_Law_main_1766 rfl rfl ?_
  refine w_iconst (q := 1769) (v := 1) d_Law_main_1768 rfl (by decide) ?_
  refine w_iadd (q := 1770) d_Law_main_1769 rfl ?_
  obtain ⟨v3, hv, h⟩ := bnd h
  obtain ⟨hi, hv⟩ := rx_ok hv
  refine w_sld (q := 1771) d_Law_main_1770 rfl hi ?_
  rw [hv]
  obtain ⟨v4, hv, h⟩ := bnd h
  refine w_callVi (q := 1774) (M' := M_Model_until) (n' := 3) (k := 54) (As := [.int v3]) (sh' := SH) (b1 := (0, 0)) d_Law_main_1771 rfl mw_Model_until (by decide) (by decide) ml_Law_215 (by decide) s_54 (by decide) rfl rfl rfl (leb rfl) (bz _) (fun _ => rfl) (ok_Model_until hv) ?_
  refine w_istore (q := 1776) (ls' := [some (.ref 2097152), some (.ref 0), some (.ref 54), some (.ref 78), some (.int i), some (.int v2.1), some (.int v4.1)]) d_Law_main_1774 rfl (by decide) rfl rfl ?_
  refine w_aload_n (q := 1777) d_Law_main_1776 rfl rfl ?_
  obtain ⟨v5, hv, h⟩ := bnd h
  refine w_callVi (q := 1780) (M' := M_Model_thrown) (n' := 0) (k := 54) (As := []) (sh' := SH) (b1 := (0, 0)) d_Law_main_1777 rfl mw_Model_thrown (by decide) (by decide) ml_Law_122 (by decide) s_54 (by decide) rfl rfl rfl (leb rfl) (bz _) (fun _ => rfl) (ok_Model_thrown hv) ?_
  refine w_iload (q := 1782) d_Law_main_1780 rfl rfl ?_
  by_cases c6 : v5 = v2.1
  · rw [if_pos c6] at h
    refine w_icmp_eq_t (q := 1787) d_Law_main_1782 rfl c6 ?_
    refine w_iload (q := 1789) d_Law_main_1787 rfl rfl ?_
    by_cases c7 : v2.1 = 0
    · rw [if_pos c7] at h
      refine w_if_ne_f (q := 1792) d_Law_main_1789 1804 rfl rfl c7 ?_
      refine w_aload_n (q := 1793) d_Law_main_1792 rfl rfl ?_
      refine w_iconst (q := 1794) (v := 0) d_Law_main_1793 rfl (by decide) ?_
      obtain ⟨v8, hv, h⟩ := bnd h
      obtain ⟨hi, hv⟩ := rd_ok hv
      refine w_lald (q := 1795) d_Law_main_1794 rfl l_78.2 l_78.1 hi ?_
      rw [hv]
      refine w_iload (q := 1797) d_Law_main_1795 rfl rfl ?_
      refine w_i2l (q := 1798) d_Law_main_1797 rfl ?_
      refine w_lcmp (q := 1799) d_Law_main_1798 rfl ?_
      by_cases c9 : (lg_cmp v8.toInt64 v4.1.toInt64) = 0
      · rw [if_pos c9] at h
        refine w_if_eq_t (q := 1804) d_Law_main_1799 rfl c9 ?_
        refine w_goto (q := 2313) d_Law_main_1804 rfl ?_
        cases h
        refine w_ls (ls' := [some (.ref 2097152), some (.ref 0), some (.ref 54), some (.ref 78), some (.int i), none, none]) (And.intro rfl (And.intro rfl (And.intro rfl (And.intro rfl (And.intro rfl trivial))))) ?_
        exact hr
      · rw [if_neg c9] at h
        refine w_if_eq_f (q := 1802) d_Law_main_1799 1804 rfl rfl c9 ?_
        refine w_iconst (q := 1803) (v := 0) d_Law_main_1802 rfl (by decide) ?_
        cases h
        exact hr.elim
    · rw [if_neg c7] at h
      refine w_if_ne_t (q := 1804) d_Law_main_1789 rfl c7 ?_
      refine w_goto (q := 2313) d_Law_main_1804 rfl ?_
      cases h
      refine w_ls (ls' := [some (.ref 2097152), some (.ref 0), some (.ref 54), some (.ref 78), some (.int i), none, none]) (And.intro rfl (And.intro rfl (And.intro rfl (And.intro rfl (And.intro rfl trivial))))) ?_
      exact hr
  · rw [if_neg c6] at h
    refine w_icmp_eq_f (q := 1785) d_Law_main_1782 1787 rfl rfl c6 ?_
    refine w_iconst (q := 1786) (v := 0) d_Law_main_1785 rfl (by decide) ?_
    cases h
    exact hr.elim
def sp_case_29 (F L : Nat) (xs : Nat → Int32) (i : Int32) (g : Mem) : Option (Mem ⊕ Unit) := (rx L xs (i + 1)).bind fun v1 => (sp_Law_doomed F v1 g).bind fun v2 => (rx L xs (i + 1)).bind fun v3 => (sp_Model_doomed F v3 v2.2).bind fun v4 => (sp_Model_thrown v4.2).bind fun v5 => if v5 = v2.1 then if v2.1 = 0 then (rd v4.2 78 1 0).bind fun v8 => if (lg_cmp v8.toInt64 v4.1.toInt64) = 0 then some (.inl v4.2) else some (.inr ()) else some (.inl v4.2) else some (.inr ())
theorem ok_case_29 {γ : GG} {F : Nat} {i : Int32} {g : Mem} {b : Nat × Nat} {Φ : PO} {r : Mem ⊕ Unit} (h : sp_case_29 F (gS γ).2.1 (gS γ).2.2 i g = some r) (hr : RQ (fun g9 => WA γ M_Law_main 130 2313 (lwL i) [] SH g9 false b Φ) (fun _ => False) r) : WA γ M_Law_main 130 1807 (lwL i) [] SH g false (1 + b.1, 6 + b.2) Φ := by
  unfold sp_case_29 at h
  refine w_aload_n (q := 1808) d_Law_main_1807 rfl rfl ?_
  refine w_aload_n (q := 1809) d_Law_main_1808 rfl rfl ?_
  refine w_iload (q := 1811) d_Law_main_1809 rfl rfl ?_
  refine w_iconst (q := 1812) (v := 1) d_Law_main_1811 rfl (by decide) ?_
  refine w_iadd (q := 1813) d_Law_main_1812 rfl ?_
  obtain ⟨v1, hv, h⟩ := bnd h
  obtain ⟨hi, hv⟩ := rx_ok hv
  refine w_sld (q := 1814) d_Law_main_1813 rfl hi ?_
  rw [hv]
  refine w_aload_n (q := 1815) d_Law_main_1814 rfl rfl ?_
  obtain ⟨v2, hv, h⟩ := bnd h
  refine w_callHi (q := 1818) (M' := M_Law_doomed) (n' := 5) (As := [.ref 0, .int v1, .ref 78]) (sh' := SH) (b1 := (1, 6)) (b2 := b) d_Law_main_1815 rfl mw_Law_doomed (by decide) (by decide) ml_Law_216 rfl rfl (leb rfl) rfl (fun h9 => absurd h9 (by decide)) (ok_Law_doomed hv) ?_
  refine w_istore (q := 1820) (ls' := [some (.ref 2097152), some (.ref 0), some (.ref 54), some (.ref 78), some (.int i), some (.int v2.1), none]) d_Law_main_1818 rfl (by decide) rfl rfl ?_
  refine w_aload_n (q := 1821) d_Law_main_1820 rfl rfl ?_
  refine w_aload_n (q := 1822) d_Law_main_1821 rfl rfl ?_
  refine w_iload (q := 1824) d_Law_main_1822 rfl rfl ?_
  refine w_iconst (q := 1825) (v := 1) d_Law_main_1824 rfl (by decide) ?_
  refine w_iadd (q := 1826) d_Law_main_1825 rfl ?_
  obtain ⟨v3, hv, h⟩ := bnd h
  obtain ⟨hi, hv⟩ := rx_ok hv
  refine w_sld (q := 1827) d_Law_main_1826 rfl hi ?_
  rw [hv]
  obtain ⟨v4, hv, h⟩ := bnd h
  refine w_callVi (q := 1830) (M' := M_Model_doomed) (n' := 5) (k := 54) (As := [.int v3]) (sh' := SH) (b1 := (0, 0)) d_Law_main_1827 rfl mw_Model_doomed (by decide) (by decide) ml_Law_218 (by decide) s_54 (by decide) rfl rfl rfl (leb rfl) (bz _) (fun _ => rfl) (ok_Model_doomed hv) ?_
  refine w_istore (q := 1832) (ls' := [some (.ref 2097152), some (.ref 0), some (.ref 54), some (.ref 78), some (.int i), some (.int v2.1), some (.int v4.1)]) d_Law_main_1830 rfl (by decide) rfl rfl ?_
  refine w_aload_n (q := 1833) d_Law_main_1832 rfl rfl ?_
  obtain ⟨v5, hv, h⟩ := bnd h
  refine w_callVi (q := 1836) (M' := M_Model_thrown) (n' := 0) (k := 54) (As := []) (sh' := SH) (b1 := (0, 0)) d_Law_main_1833 rfl mw_Model_thrown (by decide) (by decide) ml_Law_122 (by decide) s_54 (by decide) rfl rfl rfl (leb rfl) (bz _) (fun _ => rfl) (ok_Model_thrown hv) ?_
  refine w_iload (q := 1838) d_Law_main_1836 rfl rfl ?_
  by_cases c6 : v5 = v2.1
  · rw [if_pos c6] at h
    refine w_icmp_eq_t (q := 1843) d_Law_main_1838 rfl c6 ?_
    refine w_iload (q := 1845) d_Law_main_1843 rfl rfl ?_
    by_cases c7 : v2.1 = 0
    · rw [if_pos c7] at h
      refine w_if_ne_f (q := 1848) d_Law_main_1845 1860 rfl rfl c7 ?_
      refine w_aload_n (q := 1849) d_Law_main_1848 rfl rfl ?_
      refine w_iconst (q := 1850) (v := 0) d_Law_main_1849 rfl (by decide) ?_
      obtain ⟨v8, hv, h⟩ := bnd h
      obtain ⟨hi, hv⟩ := rd_ok hv
      refine w_lald (q := 1851) d_Law_main_1850 rfl l_78.2 l_78.1 hi ?_
      rw [hv]
      refine w_iload (q := 1853) d_Law_main_1851 rfl rfl ?_
      refine w_i2l (q := 1854) d_Law_main_1853 rfl ?_
      refine w_lcmp (q := 1855) d_Law_main_1854 rfl ?_
      by_cases c9 : (lg_cmp v8.toInt64 v4.1.toInt64) = 0
      · rw [if_pos c9] at h
        refine w_if_eq_t (q := 1860) d_Law_main_1855 rfl c9 ?_
        refine w_goto (q := 2313) d_Law_main_1860 rfl ?_
        cases h
        refine w_ls (ls' := [some (.ref 2097152), some (.ref 0), some (.ref 54), some (.ref 78), some (.int i), none, none]) (And.intro rfl (And.intro rfl (And.intro rfl (And.intro rfl (And.intro rfl trivial))))) ?_
        exact hr
      · rw [if_neg c9] at h
        refine w_if_eq_f (q := 1858) d_Law_main_1855 1860 rfl rfl c9 ?_
        refine w_iconst (q := 1859) (v := 0) d_Law_main_1858 rfl (by decide) ?_
        cases h
        exact hr.elim
    · rw [if_neg c7] at h
      refine w_if_ne_t (q := 1860) d_Law_main_1845 rfl c7 ?_
      refine w_goto (q := 2313) d_Law_main_1860 rfl ?_
      cases h
      refine w_ls (ls' := [some (.ref 2097152), some (.ref 0), some (.ref 54), some (.ref 78), some (.int i), none, none]) (And.intro rfl (And.intro rfl (And.intro rfl (And.intro rfl (And.intro rfl trivial))))) ?_
      exact hr
  · rw [if_neg c6] at h
    refine w_icmp_eq_f (q := 1841) d_Law_main_1838 1843 rfl rfl c6 ?_
    refine w_iconst (q := 1842) (v := 0) d_Law_main_1841 rfl (by decide) ?_
    cases h
    exact hr.elim
def sp_case_30 (F L : Nat) (xs : Nat → Int32) (i : Int32) (g : Mem) : Option (Mem ⊕ Unit) := (sp_Hall_safest F g).bind fun v1 => (sp_Model_safest F g).bind fun v2 => if v1 = v2.1 then some (.inl v2.2) else some (.inr ())
theorem ok_case_30 {γ : GG} {F : Nat} {i : Int32} {g : Mem} {b : Nat × Nat} {Φ : PO} {r : Mem ⊕ Unit} (h : sp_case_30 F (gS γ).2.1 (gS γ).2.2 i g = some r) (hr : RQ (fun g9 => WA γ M_Law_main 130 2313 (lwL i) [] SH g9 false b Φ) (fun _ => False) r) : WA γ M_Law_main 130 1863 (lwL i) [] SH g false (1 + b.1, 6 + b.2) Φ := by
  unfold sp_case_30 at h
  refine w_aload_n (q := 1864) d_Law_main_1863 rfl rfl ?_
  obtain ⟨v1, hv, h⟩ := bnd h
  refine w_callVi (q := 1867) (M' := M_Hall_safest) (n' := 3) (k := 0) (As := []) (sh' := SH) (b1 := (0, 0)) d_Law_main_1864 rfl mw_Hall_safest (by decide) (by decide) ml_Law_219 (by decide) s_0 (by decide) rfl rfl rfl (leb rfl) (bz _) (fun _ => rfl) (ok_Hall_safest hv) ?_
  refine w_aload_n (q := 1868) d_Law_main_1867 rfl rfl ?_
  obtain ⟨v2, hv, h⟩ := bnd h
  refine w_callVi (q := 1871) (M' := M_Model_safest) (n' := 2) (k := 54) (As := []) (sh' := SH) (b1 := (0, 0)) d_Law_main_1868 rfl mw_Model_safest (by decide) (by decide) ml_Law_222 (by decide) s_54 (by decide) rfl rfl rfl (leb rfl) (bz _) (fun _ => rfl) (ok_Model_safest hv) ?_
  by_cases c3 : v1 = v2.1
  · rw [if_pos c3] at h
    refine w_icmp_eq_t (q := 2313) d_Law_main_1871 rfl c3 ?_
    cases h
    refine w_ls (ls' := [some (.ref 2097152), some (.ref 0), some (.ref 54), some (.ref 78), some (.int i), none, none]) (And.intro rfl (And.intro rfl (And.intro rfl (And.intro rfl (And.intro rfl trivial))))) ?_
    exact w_wide (Nat.le_add_left _ _) (Nat.le_add_left _ _) hr
  · rw [if_neg c3] at h
    refine w_icmp_eq_f (q := 1874) d_Law_main_1871 2313 rfl rfl c3 ?_
    refine w_iconst (q := 1875) (v := 0) d_Law_main_1874 rfl (by decide) ?_
    cases h
    exact hr.elim
def sp_case_31 (F L : Nat) (xs : Nat → Int32) (i : Int32) (g : Mem) : Option (Mem ⊕ Unit) := (rx L xs (i + 1)).bind fun v1 => (sp_Law_heir F v1 g).bind fun v2 => (rx L xs (i + 1)).bind fun v3 => (sp_Model_heir F v3 v2.2).bind fun v4 => (sp_Model_thrown v4.2).bind fun v5 => if v5 = v2.1 then if v2.1 = 0 then (rd v4.2 78 1 0).bind fun v8 => if (lg_cmp v8.toInt64 v4.1.toInt64) = 0 then some (.inl v4.2) else some (.inr ()) else some (.inl v4.2) else some (.inr ())
theorem ok_case_31 {γ : GG} {F : Nat} {i : Int32} {g : Mem} {b : Nat × Nat} {Φ : PO} {r : Mem ⊕ Unit} (h : sp_case_31 F (gS γ).2.1 (gS γ).2.2 i g = some r) (hr : RQ (fun g9 => WA γ M_Law_main 130 2313 (lwL i) [] SH g9 false b Φ) (fun _ => False) r) : WA γ M_Law_main 130 1876 (lwL i) [] SH g false (1 + b.1, 6 + b.2) Φ := by
  unfold sp_case_31 at h
  refine w_aload_n (q := 1877) d_Law_main_1876 rfl rfl ?_
  refine w_aload_n (q := 1878) d_Law_main_1877 rfl rfl ?_
  refine w_iload (q := 1880) d_Law_main_1878 rfl rfl ?_
  refine w_iconst (q := 1881) (v := 1) d_Law_main_1880 rfl (by decide) ?_
  refine w_iadd (q := 1882) d_Law_main_1881 rfl ?_
  obtain ⟨v1, hv, h⟩ := bnd h
  obtain ⟨hi, hv⟩ := rx_ok hv
  refine w_sld (q := 1883) d_Law_main_1882 rfl hi ?_
  rw [hv]
  refine w_aload_n (q := 1884) d_Law_main_1883 rfl rfl ?_
  obtain ⟨v2, hv, h⟩ := bnd h
  refine w_callHi (q := 1887) (M' := M_Law_heir) (n' := 5) (As := [.ref 0, .int v1, .ref 78]) (sh' := SH) (b1 := (1, 6)) (b2 := b) d_Law_main_1884 rfl mw_Law_heir (by decide) (by decide) ml_Law_223 rfl rfl (leb rfl) rfl (fun h9 => absurd h9 (by decide)) (ok_Law_heir hv) ?_
  refine w_istore (q := 1889) (ls' := [some (.ref 2097152), some (.ref 0), some (.ref 54), some (.ref 78), some (.int i), some (.int v2.1), none]) d_Law_main_1887 rfl (by decide) rfl rfl ?_
  refine w_aload_n (q := 1890) d_Law_main_1889 rfl rfl ?_
  refine w_aload_n (q := 1891) d_Law_main_1890 rfl rfl ?_
  refine w_iload (q := 1893) d_Law_main_1891 rfl rfl ?_
  refine w_iconst (q := 1894) (v := 1) d_Law_main_1893 rfl (by decide) ?_
  refine w_iadd (q := 1895) d_Law_main_1894 rfl ?_
  obtain ⟨v3, hv, h⟩ := bnd h
  obtain ⟨hi, hv⟩ := rx_ok hv
  refine w_sld (q := 1896) d_Law_main_1895 rfl hi ?_
  rw [hv]
  obtain ⟨v4, hv, h⟩ := bnd h
  refine w_callVi (q := 1899) (M' := M_Model_heir) (n' := 3) (k := 54) (As := [.int v3]) (sh' := SH) (b1 := (0, 0)) d_Law_main_1896 rfl mw_Model_heir (by decide) (by decide) ml_Law_225 (by decide) s_54 (by decide) rfl rfl rfl (leb rfl) (bz _) (fun _ => rfl) (ok_Model_heir hv) ?_
  refine w_istore (q := 1901) (ls' := [some (.ref 2097152), some (.ref 0), some (.ref 54), some (.ref 78), some (.int i), some (.int v2.1), some (.int v4.1)]) d_Law_main_1899 rfl (by decide) rfl rfl ?_
  refine w_aload_n (q := 1902) d_Law_main_1901 rfl rfl ?_
  obtain ⟨v5, hv, h⟩ := bnd h
  refine w_callVi (q := 1905) (M' := M_Model_thrown) (n' := 0) (k := 54) (As := []) (sh' := SH) (b1 := (0, 0)) d_Law_main_1902 rfl mw_Model_thrown (by decide) (by decide) ml_Law_122 (by decide) s_54 (by decide) rfl rfl rfl (leb rfl) (bz _) (fun _ => rfl) (ok_Model_thrown hv) ?_
  refine w_iload (q := 1907) d_Law_main_1905 rfl rfl ?_
  by_cases c6 : v5 = v2.1
  · rw [if_pos c6] at h
    refine w_icmp_eq_t (q := 1912) d_Law_main_1907 rfl c6 ?_
    refine w_iload (q := 1914) d_Law_main_1912 rfl rfl ?_
    by_cases c7 : v2.1 = 0
    · rw [if_pos c7] at h
      refine w_if_ne_f (q := 1917) d_Law_main_1914 1929 rfl rfl c7 ?_
      refine w_aload_n (q := 1918) d_Law_main_1917 rfl rfl ?_
      refine w_iconst (q := 1919) (v := 0) d_Law_main_1918 rfl (by decide) ?_
      obtain ⟨v8, hv, h⟩ := bnd h
      obtain ⟨hi, hv⟩ := rd_ok hv
      refine w_lald (q := 1920) d_Law_main_1919 rfl l_78.2 l_78.1 hi ?_
      rw [hv]
      refine w_iload (q := 1922) d_Law_main_1920 rfl rfl ?_
      refine w_i2l (q := 1923) d_Law_main_1922 rfl ?_
      refine w_lcmp (q := 1924) d_Law_main_1923 rfl ?_
      by_cases c9 : (lg_cmp v8.toInt64 v4.1.toInt64) = 0
      · rw [if_pos c9] at h
        refine w_if_eq_t (q := 1929) d_Law_main_1924 rfl c9 ?_
        refine w_goto (q := 2313) d_Law_main_1929 rfl ?_
        cases h
        refine w_ls (ls' := [some (.ref 2097152), some (.ref 0), some (.ref 54), some (.ref 78), some (.int i), none, none]) (And.intro rfl (And.intro rfl (And.intro rfl (And.intro rfl (And.intro rfl trivial))))) ?_
        exact hr
      · rw [if_neg c9] at h
        refine w_if_eq_f (q := 1927) d_Law_main_1924 1929 rfl rfl c9 ?_
        refine w_iconst (q := 1928) (v := 0) d_Law_main_1927 rfl (by decide) ?_
        cases h
        exact hr.elim
    · rw [if_neg c7] at h
      refine w_if_ne_t (q := 1929) d_Law_main_1914 rfl c7 ?_
      refine w_goto (q := 2313) d_Law_main_1929 rfl ?_
      cases h
      refine w_ls (ls' := [some (.ref 2097152), some (.ref 0), some (.ref 54), some (.ref 78), some (.int i), none, none]) (And.intro rfl (And.intro rfl (And.intro rfl (And.intro rfl (And.intro rfl trivial))))) ?_
      exact hr
  · rw [if_neg c6] at h
    refine w_icmp_eq_f (q := 1910) d_Law_main_1907 1912 rfl rfl c6 ?_
    refine w_iconst (q := 1911) (v := 0) d_Law_main_1910 rfl (by decide) ?_
    cases h
    exact hr.elim
def sp_case_32 (F L : Nat) (xs : Nat → Int32) (i : Int32) (g : Mem) : Option (Mem ⊕ Unit) := (rx L xs (i + 1)).bind fun v1 => (sp_Law_lice F v1 g).bind fun v2 => (rx L xs (i + 1)).bind fun v3 => (sp_Model_lice F v3 v2.2).bind fun v4 => (sp_Model_thrown v4.2).bind fun v5 => if v5 = v2.1 then if v2.1 = 0 then (rd v4.2 78 1 0).bind fun v8 => if (lg_cmp v8.toInt64 v4.1.toInt64) = 0 then some (.inl v4.2) else some (.inr ()) else some (.inl v4.2) else some (.inr ())
theorem ok_case_32 {γ : GG} {F : Nat} {i : Int32} {g : Mem} {b : Nat × Nat} {Φ : PO} {r : Mem ⊕ Unit} (h : sp_case_32 F (gS γ).2.1 (gS γ).2.2 i g = some r) (hr : RQ (fun g9 => WA γ M_Law_main 130 2313 (lwL i) [] SH g9 false b Φ) (fun _ => False) r) : WA γ M_Law_main 130 1932 (lwL i) [] SH g false (1 + b.1, 6 + b.2) Φ := by
  unfold sp_case_32 at h
  refine w_aload_n (q := 1933) d_Law_main_1932 rfl rfl ?_
  refine w_aload_n (q := 1934) d_Law_main_1933 rfl rfl ?_
  refine w_iload (q := 1936) d_Law_main_1934 rfl rfl ?_
  refine w_iconst (q := 1937) (v := 1) d_Law_main_1936 rfl (by decide) ?_
  refine w_iadd (q := 1938) d_Law_main_1937 rfl ?_
  obtain ⟨v1, hv, h⟩ := bnd h
  obtain ⟨hi, hv⟩ := rx_ok hv
  refine w_sld (q := 1939) d_Law_main_1938 rfl hi ?_
  rw [hv]
  refine w_aload_n (q := 1940) d_Law_main_1939 rfl rfl ?_
  obtain ⟨v2, hv, h⟩ := bnd h
  refine w_callHi (q := 1943) (M' := M_Law_lice) (n' := 4) (As := [.ref 0, .int v1, .ref 78]) (sh' := SH) (b1 := (1, 6)) (b2 := b) d_Law_main_1940 rfl mw_Law_lice (by decide) (by decide) ml_Law_226 rfl rfl (leb rfl) rfl (fun h9 => absurd h9 (by decide)) (ok_Law_lice hv) ?_
  refine w_istore (q := 1945) (ls' := [some (.ref 2097152), some (.ref 0), some (.ref 54), some (.ref 78), some (.int i), some (.int v2.1), none]) d_Law_main_1943 rfl (by decide) rfl rfl ?_
  refine w_aload_n (q := 1946) d_Law_main_1945 rfl rfl ?_
  refine w_aload_n (q := 1947) d_Law_main_1946 rfl rfl ?_
  refine w_iload (q := 1949) d_Law_main_1947 rfl rfl ?_
  refine w_iconst (q := 1950) (v := 1) d_Law_main_1949 rfl (by decide) ?_
  refine w_iadd (q := 1951) d_Law_main_1950 rfl ?_
  obtain ⟨v3, hv, h⟩ := bnd h
  obtain ⟨hi, hv⟩ := rx_ok hv
  refine w_sld (q := 1952) d_Law_main_1951 rfl hi ?_
  rw [hv]
  obtain ⟨v4, hv, h⟩ := bnd h
  refine w_callVi (q := 1955) (M' := M_Model_lice) (n' := 3) (k := 54) (As := [.int v3]) (sh' := SH) (b1 := (0, 0)) d_Law_main_1952 rfl mw_Model_lice (by decide) (by decide) ml_Law_228 (by decide) s_54 (by decide) rfl rfl rfl (leb rfl) (bz _) (fun _ => rfl) (ok_Model_lice hv) ?_
  refine w_istore (q := 1957) (ls' := [some (.ref 2097152), some (.ref 0), some (.ref 54), some (.ref 78), some (.int i), some (.int v2.1), some (.int v4.1)]) d_Law_main_1955 rfl (by decide) rfl rfl ?_
  refine w_aload_n (q := 1958) d_Law_main_1957 rfl rfl ?_
  obtain ⟨v5, hv, h⟩ := bnd h
  refine w_callVi (q := 1961) (M' := M_Model_thrown) (n' := 0) (k := 54) (As := []) (sh' := SH) (b1 := (0, 0)) d_Law_main_1958 rfl mw_Model_thrown (by decide) (by decide) ml_Law_122 (by decide) s_54 (by decide) rfl rfl rfl (leb rfl) (bz _) (fun _ => rfl) (ok_Model_thrown hv) ?_
  refine w_iload (q := 1963) d_Law_main_1961 rfl rfl ?_
  by_cases c6 : v5 = v2.1
  · rw [if_pos c6] at h
    refine w_icmp_eq_t (q := 1968) d_Law_main_1963 rfl c6 ?_
    refine w_iload (q := 1970) d_Law_main_1968 rfl rfl ?_
    by_cases c7 : v2.1 = 0
    · rw [if_pos c7] at h
      refine w_if_ne_f (q := 1973) d_Law_main_1970 1985 rfl rfl c7 ?_
      refine w_aload_n (q := 1974) d_Law_main_1973 rfl rfl ?_
      refine w_iconst (q := 1975) (v := 0) d_Law_main_1974 rfl (by decide) ?_
      obtain ⟨v8, hv, h⟩ := bnd h
      obtain ⟨hi, hv⟩ := rd_ok hv
      refine w_lald (q := 1976) d_Law_main_1975 rfl l_78.2 l_78.1 hi ?_
      rw [hv]
      refine w_iload (q := 1978) d_Law_main_1976 rfl rfl ?_
      refine w_i2l (q := 1979) d_Law_main_1978 rfl ?_
      refine w_lcmp (q := 1980) d_Law_main_1979 rfl ?_
      by_cases c9 : (lg_cmp v8.toInt64 v4.1.toInt64) = 0
      · rw [if_pos c9] at h
        refine w_if_eq_t (q := 1985) d_Law_main_1980 rfl c9 ?_
        refine w_goto (q := 2313) d_Law_main_1985 rfl ?_
        cases h
        refine w_ls (ls' := [some (.ref 2097152), some (.ref 0), some (.ref 54), some (.ref 78), some (.int i), none, none]) (And.intro rfl (And.intro rfl (And.intro rfl (And.intro rfl (And.intro rfl trivial))))) ?_
        exact hr
      · rw [if_neg c9] at h
        refine w_if_eq_f (q := 1983) d_Law_main_1980 1985 rfl rfl c9 ?_
        refine w_iconst (q := 1984) (v := 0) d_Law_main_1983 rfl (by decide) ?_
        cases h
        exact hr.elim
    · rw [if_neg c7] at h
      refine w_if_ne_t (q := 1985) d_Law_main_1970 rfl c7 ?_
      refine w_goto (q := 2313) d_Law_main_1985 rfl ?_
      cases h
      refine w_ls (ls' := [some (.ref 2097152), some (.ref 0), some (.ref 54), some (.ref 78), some (.int i), none, none]) (And.intro rfl (And.intro rfl (And.intro rfl (And.intro rfl (And.intro rfl trivial))))) ?_
      exact hr
  · rw [if_neg c6] at h
    refine w_icmp_eq_f (q := 1966) d_Law_main_1963 1968 rfl rfl c6 ?_
    refine w_iconst (q := 1967) (v := 0) d_Law_main_1966 rfl (by decide) ?_
    cases h
    exact hr.elim
def sp_case_33 (F L : Nat) (xs : Nat → Int32) (i : Int32) (g : Mem) : Option (Mem ⊕ Unit) := (rx L xs (i + 1)).bind fun v1 => (rx L xs (i + 2)).bind fun v2 => if v2 = 0 then (sp_Law_see v1 0 g).bind fun v4 => (rx L xs (i + 1)).bind fun v5 => (rx L xs (i + 2)).bind fun v6 => if v6 = 0 then (sp_Model_see v5 0 v4.2).bind fun v8 => (sp_Model_thrown v8.2).bind fun v9 => if v9 = v4.1 then if v4.1 = 0 then (rd v8.2 78 1 0).bind fun v12 => if (lg_cmp v12.toInt64 v8.1.toInt64) = 0 then some (.inl v8.2) else some (.inr ()) else some (.inl v8.2) else some (.inr ()) else (sp_Model_see v5 1 v4.2).bind fun v14 => (sp_Model_thrown v14.2).bind fun v15 => if v15 = v4.1 then if v4.1 = 0 then (rd v14.2 78 1 0).bind fun v18 => if (lg_cmp v18.toInt64 v14.1.toInt64) = 0 then some (.inl v14.2) else some (.inr ()) else some (.inl v14.2) else some (.inr ()) else (sp_Law_see v1 1 g).bind fun v20 => (rx L xs (i + 1)).bind fun v21 => (rx L xs (i + 2)).bind fun v22 => if v22 = 0 then (sp_Model_see v21 0 v20.2).bind fun v24 => (sp_Model_thrown v24.2).bind fun v25 => if v25 = v20.1 then if v20.1 = 0 then (rd v24.2 78 1 0).bind fun v28 => if (lg_cmp v28.toInt64 v24.1.toInt64) = 0 then some (.inl v24.2) else some (.inr ()) else some (.inl v24.2) else some (.inr ()) else (sp_Model_see v21 1 v20.2).bind fun v30 => (sp_Model_thrown v30.2).bind fun v31 => if v31 = v20.1 then if v20.1 = 0 then (rd v30.2 78 1 0).bind fun v34 => if (lg_cmp v34.toInt64 v30.1.toInt64) = 0 then some (.inl v30.2) else some (.inr ()) else some (.inl v30.2) else some (.inr ())
theorem ok_case_33 {γ : GG} {F : Nat} {i : Int32} {g : Mem} {b : Nat × Nat} {Φ : PO} {r : Mem ⊕ Unit} (h : sp_case_33 F (gS γ).2.1 (gS γ).2.2 i g = some r) (hr : RQ (fun g9 => WA γ M_Law_main 130 2313 (lwL i) [] SH g9 false b Φ) (fun _ => False) r) : WA γ M_Law_main 130 1988 (lwL i) [] SH g false (1 + b.1, 6 + b.2) Φ := by
  unfold sp_case_33 at h
  refine w_aload_n (q := 1989) d_Law_main_1988 rfl rfl ?_
  refine w_aload_n (q := 1990) d_Law_main_1989 rfl rfl ?_
  refine w_iload (q := 1992) d_Law_main_1990 rfl rfl ?_
  refine w_iconst (q := 1993) (v := 1) d_Law_main_1992 rfl (by decide) ?_
  refine w_iadd (q := 1994) d_Law_main_1993 rfl ?_
  obtain ⟨v1, hv, h⟩ := bnd h
  obtain ⟨hi, hv⟩ := rx_ok hv
  refine w_sld (q := 1995) d_Law_main_1994 rfl hi ?_
  rw [hv]
  refine w_aload_n (q := 1996) d_Law_main_1995 rfl rfl ?_
  refine w_iload (q := 1998) d_Law_main_1996 rfl rfl ?_
  refine w_iconst (q := 1999) (v := 2) d_Law_main_1998 rfl (by decide) ?_
  refine w_iadd (q := 2000) d_Law_main_1999 rfl ?_
  obtain ⟨v2, hv, h⟩ := bnd h
  obtain ⟨hi, hv⟩ := rx_ok hv
  refine w_sld (q := 2001) d_Law_main_2000 rfl hi ?_
  rw [hv]
  by_cases c3 : v2 = 0
  · rw [if_pos c3] at h
    refine w_if_eq_t (q := 2008) d_Law_main_2001 rfl c3 ?_
    refine w_iconst (q := 2009) (v := 0) d_Law_main_2008 rfl (by decide) ?_
    refine w_aload_n (q := 2010) d_Law_main_2009 rfl rfl ?_
    obtain ⟨v4, hv, h⟩ := bnd h
    refine w_callHi (q := 2013) (M' := M_Law_see) (n' := 2) (As := [.ref 0, .int v1, .int 0, .ref 78]) (sh' := SH) (b1 := (1, 6)) (b2 := b) d_Law_main_2010 rfl mw_Law_see (by decide) (by decide) ml_Law_229 rfl rfl (leb rfl) rfl (fun h9 => absurd h9 (by decide)) (ok_Law_see hv) ?_
    refine w_istore (q := 2015) (ls' := [some (.ref 2097152), some (.ref 0), some (.ref 54), some (.ref 78), some (.int i), some (.int v4.1), none]) d_Law_main_2013 rfl (by decide) rfl rfl ?_
    refine w_aload_n (q := 2016) d_Law_main_2015 rfl rfl ?_
    refine w_aload_n (q := 2017) d_Law_main_2016 rfl rfl ?_
    refine w_iload (q := 2019) d_Law_main_2017 rfl rfl ?_
    refine w_iconst (q := 2020) (v := 1) d_Law_main_2019 rfl (by decide) ?_
    refine w_iadd (q := 2021) d_Law_main_2020 rfl ?_
    obtain ⟨v5, hv, h⟩ := bnd h
    obtain ⟨hi, hv⟩ := rx_ok hv
    refine w_sld (q := 2022) d_Law_main_2021 rfl hi ?_
    rw [hv]
    refine w_aload_n (q := 2023) d_Law_main_2022 rfl rfl ?_
    refine w_iload (q := 2025) d_Law_main_2023 rfl rfl ?_
    refine w_iconst (q := 2026) (v := 2) d_Law_main_2025 rfl (by decide) ?_
    refine w_iadd (q := 2027) d_Law_main_2026 rfl ?_
    obtain ⟨v6, hv, h⟩ := bnd h
    obtain ⟨hi, hv⟩ := rx_ok hv
    refine w_sld (q := 2028) d_Law_main_2027 rfl hi ?_
    rw [hv]
    by_cases c7 : v6 = 0
    · rw [if_pos c7] at h
      refine w_if_eq_t (q := 2035) d_Law_main_2028 rfl c7 ?_
      refine w_iconst (q := 2036) (v := 0) d_Law_main_2035 rfl (by decide) ?_
      obtain ⟨v8, hv, h⟩ := bnd h
      refine w_callVi (q := 2039) (M' := M_Model_see) (n' := 2) (k := 54) (As := [.int v5, .int 0]) (sh' := SH) (b1 := (0, 0)) d_Law_main_2036 rfl mw_Model_see (by decide) (by decide) ml_Law_232 (by decide) s_54 (by decide) rfl rfl rfl (leb rfl) (bz _) (fun _ => rfl) (ok_Model_see hv) ?_
      refine w_istore (q := 2041) (ls' := [some (.ref 2097152), some (.ref 0), some (.ref 54), some (.ref 78), some (.int i), some (.int v4.1), some (.int v8.1)]) d_Law_main_2039 rfl (by decide) rfl rfl ?_
      refine w_aload_n (q := 2042) d_Law_main_2041 rfl rfl ?_
      obtain ⟨v9, hv, h⟩ := bnd h
      refine w_callVi (q := 2045) (M' := M_Model_thrown) (n' := 0) (k := 54) (As := []) (sh' := SH) (b1 := (0, 0)) d_Law_main_2042 rfl mw_Model_thrown (by decide) (by decide) ml_Law_122 (by decide) s_54 (by decide) rfl rfl rfl (leb rfl) (bz _) (fun _ => rfl) (ok_Model_thrown hv) ?_
      refine w_iload (q := 2047) d_Law_main_2045 rfl rfl ?_
      by_cases c10 : v9 = v4.1
      · rw [if_pos c10] at h
        refine w_icmp_eq_t (q := 2052) d_Law_main_2047 rfl c10 ?_
        refine w_iload (q := 2054) d_Law_main_2052 rfl rfl ?_
        by_cases c11 : v4.1 = 0
        · rw [if_pos c11] at h
          refine w_if_ne_f (q := 2057) d_Law_main_2054 2069 rfl rfl c11 ?_
          refine w_aload_n (q := 2058) d_Law_main_2057 rfl rfl ?_
          refine w_iconst (q := 2059) (v := 0) d_Law_main_2058 rfl (by decide) ?_
          obtain ⟨v12, hv, h⟩ := bnd h
          obtain ⟨hi, hv⟩ := rd_ok hv
          refine w_lald (q := 2060) d_Law_main_2059 rfl l_78.2 l_78.1 hi ?_
          rw [hv]
          refine w_iload (q := 2062) d_Law_main_2060 rfl rfl ?_
          refine w_i2l (q := 2063) d_Law_main_2062 rfl ?_
          refine w_lcmp (q := 2064) d_Law_main_2063 rfl ?_
          by_cases c13 : (lg_cmp v12.toInt64 v8.1.toInt64) = 0
          · rw [if_pos c13] at h
            refine w_if_eq_t (q := 2069) d_Law_main_2064 rfl c13 ?_
            refine w_goto (q := 2313) d_Law_main_2069 rfl ?_
            cases h
            refine w_ls (ls' := [some (.ref 2097152), some (.ref 0), some (.ref 54), some (.ref 78), some (.int i), none, none]) (And.intro rfl (And.intro rfl (And.intro rfl (And.intro rfl (And.intro rfl trivial))))) ?_
            exact hr
          · rw [if_neg c13] at h
            refine w_if_eq_f (q := 2067) d_Law_main_2064 2069 rfl rfl c13 ?_
            refine w_iconst (q := 2068) (v := 0) d_Law_main_2067 rfl (by decide) ?_
            cases h
            exact hr.elim
        · rw [if_neg c11] at h
          refine w_if_ne_t (q := 2069) d_Law_main_2054 rfl c11 ?_
          refine w_goto (q := 2313) d_Law_main_2069 rfl ?_
          cases h
          refine w_ls (ls' := [some (.ref 2097152), some (.ref 0), some (.ref 54), some (.ref 78), some (.int i), none, none]) (And.intro rfl (And.intro rfl (And.intro rfl (And.intro rfl (And.intro rfl trivial))))) ?_
          exact hr
      · rw [if_neg c10] at h
        refine w_icmp_eq_f (q := 2050) d_Law_main_2047 2052 rfl rfl c10 ?_
        refine w_iconst (q := 2051) (v := 0) d_Law_main_2050 rfl (by decide) ?_
        cases h
        exact hr.elim
    · rw [if_neg c7] at h
      refine w_if_eq_f (q := 2031) d_Law_main_2028 2035 rfl rfl c7 ?_
      refine w_iconst (q := 2032) (v := 1) d_Law_main_2031 rfl (by decide) ?_
      refine w_goto (q := 2036) d_Law_main_2032 rfl ?_
      obtain ⟨v14, hv, h⟩ := bnd h
      refine w_callVi (q := 2039) (M' := M_Model_see) (n' := 2) (k := 54) (As := [.int v5, .int 1]) (sh' := SH) (b1 := (0, 0)) d_Law_main_2036 rfl mw_Model_see (by decide) (by decide) ml_Law_232 (by decide) s_54 (by decide) rfl rfl rfl (leb rfl) (bz _) (fun _ => rfl) (ok_Model_see hv) ?_
      refine w_istore (q := 2041) (ls' := [some (.ref 2097152), some (.ref 0), some (.ref 54), some (.ref 78), some (.int i), some (.int v4.1), some (.int v14.1)]) d_Law_main_2039 rfl (by decide) rfl rfl ?_
      refine w_aload_n (q := 2042) d_Law_main_2041 rfl rfl ?_
      obtain ⟨v15, hv, h⟩ := bnd h
      refine w_callVi (q := 2045) (M' := M_Model_thrown) (n' := 0) (k := 54) (As := []) (sh' := SH) (b1 := (0, 0)) d_Law_main_2042 rfl mw_Model_thrown (by decide) (by decide) ml_Law_122 (by decide) s_54 (by decide) rfl rfl rfl (leb rfl) (bz _) (fun _ => rfl) (ok_Model_thrown hv) ?_
      refine w_iload (q := 2047) d_Law_main_2045 rfl rfl ?_
      by_cases c16 : v15 = v4.1
      · rw [if_pos c16] at h
        refine w_icmp_eq_t (q := 2052) d_Law_main_2047 rfl c16 ?_
        refine w_iload (q := 2054) d_Law_main_2052 rfl rfl ?_
        by_cases c17 : v4.1 = 0
        · rw [if_pos c17] at h
          refine w_if_ne_f (q := 2057) d_Law_main_2054 2069 rfl rfl c17 ?_
          refine w_aload_n (q := 2058) d_Law_main_2057 rfl rfl ?_
          refine w_iconst (q := 2059) (v := 0) d_Law_main_2058 rfl (by decide) ?_
          obtain ⟨v18, hv, h⟩ := bnd h
          obtain ⟨hi, hv⟩ := rd_ok hv
          refine w_lald (q := 2060) d_Law_main_2059 rfl l_78.2 l_78.1 hi ?_
          rw [hv]
          refine w_iload (q := 2062) d_Law_main_2060 rfl rfl ?_
          refine w_i2l (q := 2063) d_Law_main_2062 rfl ?_
          refine w_lcmp (q := 2064) d_Law_main_2063 rfl ?_
          by_cases c19 : (lg_cmp v18.toInt64 v14.1.toInt64) = 0
          · rw [if_pos c19] at h
            refine w_if_eq_t (q := 2069) d_Law_main_2064 rfl c19 ?_
            refine w_goto (q := 2313) d_Law_main_2069 rfl ?_
            cases h
            refine w_ls (ls' := [some (.ref 2097152), some (.ref 0), some (.ref 54), some (.ref 78), some (.int i), none, none]) (And.intro rfl (And.intro rfl (And.intro rfl (And.intro rfl (And.intro rfl trivial))))) ?_
            exact hr
          · rw [if_neg c19] at h
            refine w_if_eq_f (q := 2067) d_Law_main_2064 2069 rfl rfl c19 ?_
            refine w_iconst (q := 2068) (v := 0) d_Law_main_2067 rfl (by decide) ?_
            cases h
            exact hr.elim
        · rw [if_neg c17] at h
          refine w_if_ne_t (q := 2069) d_Law_main_2054 rfl c17 ?_
          refine w_goto (q := 2313) d_Law_main_2069 rfl ?_
          cases h
          refine w_ls (ls' := [some (.ref 2097152), some (.ref 0), some (.ref 54), some (.ref 78), some (.int i), none, none]) (And.intro rfl (And.intro rfl (And.intro rfl (And.intro rfl (And.intro rfl trivial))))) ?_
          exact hr
      · rw [if_neg c16] at h
        refine w_icmp_eq_f (q := 2050) d_Law_main_2047 2052 rfl rfl c16 ?_
        refine w_iconst (q := 2051) (v := 0) d_Law_main_2050 rfl (by decide) ?_
        cases h
        exact hr.elim
  · rw [if_neg c3] at h
    refine w_if_eq_f (q := 2004) d_Law_main_2001 2008 rfl rfl c3 ?_
    refine w_iconst (q := 2005) (v := 1) d_Law_main_2004 rfl (by decide) ?_
    refine w_goto (q := 2009) d_Law_main_2005 rfl ?_
    refine w_aload_n (q := 2010) d_Law_main_2009 rfl rfl ?_
    obtain ⟨v20, hv, h⟩ := bnd h
    refine w_callHi (q := 2013) (M' := M_Law_see) (n' := 2) (As := [.ref 0, .int v1, .int 1, .ref 78]) (sh' := SH) (b1 := (1, 6)) (b2 := b) d_Law_main_2010 rfl mw_Law_see (by decide) (by decide) ml_Law_229 rfl rfl (leb rfl) rfl (fun h9 => absurd h9 (by decide)) (ok_Law_see hv) ?_
    refine w_istore (q := 2015) (ls' := [some (.ref 2097152), some (.ref 0), some (.ref 54), some (.ref 78), some (.int i), some (.int v20.1), none]) d_Law_main_2013 rfl (by decide) rfl rfl ?_
    refine w_aload_n (q := 2016) d_Law_main_2015 rfl rfl ?_
    refine w_aload_n (q := 2017) d_Law_main_2016 rfl rfl ?_
    refine w_iload (q := 2019) d_Law_main_2017 rfl rfl ?_
    refine w_iconst (q := 2020) (v := 1) d_Law_main_2019 rfl (by decide) ?_
    refine w_iadd (q := 2021) d_Law_main_2020 rfl ?_
    obtain ⟨v21, hv, h⟩ := bnd h
    obtain ⟨hi, hv⟩ := rx_ok hv
    refine w_sld (q := 2022) d_Law_main_2021 rfl hi ?_
    rw [hv]
    refine w_aload_n (q := 2023) d_Law_main_2022 rfl rfl ?_
    refine w_iload (q := 2025) d_Law_main_2023 rfl rfl ?_
    refine w_iconst (q := 2026) (v := 2) d_Law_main_2025 rfl (by decide) ?_
    refine w_iadd (q := 2027) d_Law_main_2026 rfl ?_
    obtain ⟨v22, hv, h⟩ := bnd h
    obtain ⟨hi, hv⟩ := rx_ok hv
    refine w_sld (q := 2028) d_Law_main_2027 rfl hi ?_
    rw [hv]
    by_cases c23 : v22 = 0
    · rw [if_pos c23] at h
      refine w_if_eq_t (q := 2035) d_Law_main_2028 rfl c23 ?_
      refine w_iconst (q := 2036) (v := 0) d_Law_main_2035 rfl (by decide) ?_
      obtain ⟨v24, hv, h⟩ := bnd h
      refine w_callVi (q := 2039) (M' := M_Model_see) (n' := 2) (k := 54) (As := [.int v21, .int 0]) (sh' := SH) (b1 := (0, 0)) d_Law_main_2036 rfl mw_Model_see (by decide) (by decide) ml_Law_232 (by decide) s_54 (by decide) rfl rfl rfl (leb rfl) (bz _) (fun _ => rfl) (ok_Model_see hv) ?_
      refine w_istore (q := 2041) (ls' := [some (.ref 2097152), some (.ref 0), some (.ref 54), some (.ref 78), some (.int i), some (.int v20.1), some (.int v24.1)]) d_Law_main_2039 rfl (by decide) rfl rfl ?_
      refine w_aload_n (q := 2042) d_Law_main_2041 rfl rfl ?_
      obtain ⟨v25, hv, h⟩ := bnd h
      refine w_callVi (q := 2045) (M' := M_Model_thrown) (n' := 0) (k := 54) (As := []) (sh' := SH) (b1 := (0, 0)) d_Law_main_2042 rfl mw_Model_thrown (by decide) (by decide) ml_Law_122 (by decide) s_54 (by decide) rfl rfl rfl (leb rfl) (bz _) (fun _ => rfl) (ok_Model_thrown hv) ?_
      refine w_iload (q := 2047) d_Law_main_2045 rfl rfl ?_
      by_cases c26 : v25 = v20.1
      · rw [if_pos c26] at h
        refine w_icmp_eq_t (q := 2052) d_Law_main_2047 rfl c26 ?_
        refine w_iload (q := 2054) d_Law_main_2052 rfl rfl ?_
        by_cases c27 : v20.1 = 0
        · rw [if_pos c27] at h
          refine w_if_ne_f (q := 2057) d_Law_main_2054 2069 rfl rfl c27 ?_
          refine w_aload_n (q := 2058) d_Law_main_2057 rfl rfl ?_
          refine w_iconst (q := 2059) (v := 0) d_Law_main_2058 rfl (by decide) ?_
          obtain ⟨v28, hv, h⟩ := bnd h
          obtain ⟨hi, hv⟩ := rd_ok hv
          refine w_lald (q := 2060) d_Law_main_2059 rfl l_78.2 l_78.1 hi ?_
          rw [hv]
          refine w_iload (q := 2062) d_Law_main_2060 rfl rfl ?_
          refine w_i2l (q := 2063) d_Law_main_2062 rfl ?_
          refine w_lcmp (q := 2064) d_Law_main_2063 rfl ?_
          by_cases c29 : (lg_cmp v28.toInt64 v24.1.toInt64) = 0
          · rw [if_pos c29] at h
            refine w_if_eq_t (q := 2069) d_Law_main_2064 rfl c29 ?_
            refine w_goto (q := 2313) d_Law_main_2069 rfl ?_
            cases h
            refine w_ls (ls' := [some (.ref 2097152), some (.ref 0), some (.ref 54), some (.ref 78), some (.int i), none, none]) (And.intro rfl (And.intro rfl (And.intro rfl (And.intro rfl (And.intro rfl trivial))))) ?_
            exact hr
          · rw [if_neg c29] at h
            refine w_if_eq_f (q := 2067) d_Law_main_2064 2069 rfl rfl c29 ?_
            refine w_iconst (q := 2068) (v := 0) d_Law_main_2067 rfl (by decide) ?_
            cases h
            exact hr.elim
        · rw [if_neg c27] at h
          refine w_if_ne_t (q := 2069) d_Law_main_2054 rfl c27 ?_
          refine w_goto (q := 2313) d_Law_main_2069 rfl ?_
          cases h
          refine w_ls (ls' := [some (.ref 2097152), some (.ref 0), some (.ref 54), some (.ref 78), some (.int i), none, none]) (And.intro rfl (And.intro rfl (And.intro rfl (And.intro rfl (And.intro rfl trivial))))) ?_
          exact hr
      · rw [if_neg c26] at h
        refine w_icmp_eq_f (q := 2050) d_Law_main_2047 2052 rfl rfl c26 ?_
        refine w_iconst (q := 2051) (v := 0) d_Law_main_2050 rfl (by decide) ?_
        cases h
        exact hr.elim
    · rw [if_neg c23] at h
      refine w_if_eq_f (q := 2031) d_Law_main_2028 2035 rfl rfl c23 ?_
      refine w_iconst (q := 2032) (v := 1) d_Law_main_2031 rfl (by decide) ?_
      refine w_goto (q := 2036) d_Law_main_2032 rfl ?_
      obtain ⟨v30, hv, h⟩ := bnd h
      refine w_callVi (q := 2039) (M' := M_Model_see) (n' := 2) (k := 54) (As := [.int v21, .int 1]) (sh' := SH) (b1 := (0, 0)) d_Law_main_2036 rfl mw_Model_see (by decide) (by decide) ml_Law_232 (by decide) s_54 (by decide) rfl rfl rfl (leb rfl) (bz _) (fun _ => rfl) (ok_Model_see hv) ?_
      refine w_istore (q := 2041) (ls' := [some (.ref 2097152), some (.ref 0), some (.ref 54), some (.ref 78), some (.int i), some (.int v20.1), some (.int v30.1)]) d_Law_main_2039 rfl (by decide) rfl rfl ?_
      refine w_aload_n (q := 2042) d_Law_main_2041 rfl rfl ?_
      obtain ⟨v31, hv, h⟩ := bnd h
      refine w_callVi (q := 2045) (M' := M_Model_thrown) (n' := 0) (k := 54) (As := []) (sh' := SH) (b1 := (0, 0)) d_Law_main_2042 rfl mw_Model_thrown (by decide) (by decide) ml_Law_122 (by decide) s_54 (by decide) rfl rfl rfl (leb rfl) (bz _) (fun _ => rfl) (ok_Model_thrown hv) ?_
      refine w_iload (q := 2047) d_Law_main_2045 rfl rfl ?_
      by_cases c32 : v31 = v20.1
      · rw [if_pos c32] at h
        refine w_icmp_eq_t (q := 2052) d_Law_main_2047 rfl c32 ?_
        refine w_iload (q := 2054) d_Law_main_2052 rfl rfl ?_
        by_cases c33 : v20.1 = 0
        · rw [if_pos c33] at h
          refine w_if_ne_f (q := 2057) d_Law_main_2054 2069 rfl rfl c33 ?_
          refine w_aload_n (q := 2058) d_Law_main_2057 rfl rfl ?_
          refine w_iconst (q := 2059) (v := 0) d_Law_main_2058 rfl (by decide) ?_
          obtain ⟨v34, hv, h⟩ := bnd h
          obtain ⟨hi, hv⟩ := rd_ok hv
          refine w_lald (q := 2060) d_Law_main_2059 rfl l_78.2 l_78.1 hi ?_
          rw [hv]
          refine w_iload (q := 2062) d_Law_main_2060 rfl rfl ?_
          refine w_i2l (q := 2063) d_Law_main_2062 rfl ?_
          refine w_lcmp (q := 2064) d_Law_main_2063 rfl ?_
          by_cases c35 : (lg_cmp v34.toInt64 v30.1.toInt64) = 0
          · rw [if_pos c35] at h
            refine w_if_eq_t (q := 2069) d_Law_main_2064 rfl c35 ?_
            refine w_goto (q := 2313) d_Law_main_2069 rfl ?_
            cases h
            refine w_ls (ls' := [some (.ref 2097152), some (.ref 0), some (.ref 54), some (.ref 78), some (.int i), none, none]) (And.intro rfl (And.intro rfl (And.intro rfl (And.intro rfl (And.intro rfl trivial))))) ?_
            exact hr
          · rw [if_neg c35] at h
            refine w_if_eq_f (q := 2067) d_Law_main_2064 2069 rfl rfl c35 ?_
            refine w_iconst (q := 2068) (v := 0) d_Law_main_2067 rfl (by decide) ?_
            cases h
            exact hr.elim
        · rw [if_neg c33] at h
          refine w_if_ne_t (q := 2069) d_Law_main_2054 rfl c33 ?_
          refine w_goto (q := 2313) d_Law_main_2069 rfl ?_
          cases h
          refine w_ls (ls' := [some (.ref 2097152), some (.ref 0), some (.ref 54), some (.ref 78), some (.int i), none, none]) (And.intro rfl (And.intro rfl (And.intro rfl (And.intro rfl (And.intro rfl trivial))))) ?_
          exact hr
      · rw [if_neg c32] at h
        refine w_icmp_eq_f (q := 2050) d_Law_main_2047 2052 rfl rfl c32 ?_
        refine w_iconst (q := 2051) (v := 0) d_Law_main_2050 rfl (by decide) ?_
        cases h
        exact hr.elim
def sp_case_34 (F L : Nat) (xs : Nat → Int32) (i : Int32) (g : Mem) : Option (Mem ⊕ Unit) := (rx L xs (i + 1)).bind fun v1 => (rx L xs (i + 2)).bind fun v2 => (sp_Law_ate F v1 v2 g).bind fun v3 => (rx L xs (i + 1)).bind fun v4 => (rx L xs (i + 2)).bind fun v5 => (sp_Model_ate F v4 v5 v3.2).bind fun v6 => (sp_Model_thrown v6.2).bind fun v7 => if v7 = v3.1 then if v3.1 = 0 then (rd v6.2 78 1 0).bind fun v10 => if (lg_cmp v10.toInt64 v6.1.toInt64) = 0 then some (.inl v6.2) else some (.inr ()) else some (.inl v6.2) else some (.inr ())
theorem ok_case_34 {γ : GG} {F : Nat} {i : Int32} {g : Mem} {b : Nat × Nat} {Φ : PO} {r : Mem ⊕ Unit} (h : sp_case_34 F (gS γ).2.1 (gS γ).2.2 i g = some r) (hr : RQ (fun g9 => WA γ M_Law_main 130 2313 (lwL i) [] SH g9 false b Φ) (fun _ => False) r) : WA γ M_Law_main 130 2072 (lwL i) [] SH g false (1 + b.1, 6 + b.2) Φ := by
  unfold sp_case_34 at h
  refine w_aload_n (q := 2073) d_Law_main_2072 rfl rfl ?_
  refine w_aload_n (q := 2074) d_Law_main_2073 rfl rfl ?_
  refine w_iload (q := 2076) d_Law_main_2074 rfl rfl ?_
  refine w_iconst (q := 2077) (v := 1) d_Law_main_2076 rfl (by decide) ?_
  refine w_iadd (q := 2078) d_Law_main_2077 rfl ?_
  obtain ⟨v1, hv, h⟩ := bnd h
  obtain ⟨hi, hv⟩ := rx_ok hv
  refine w_sld (q := 2079) d_Law_main_2078 rfl hi ?_
  rw [hv]
  refine w_aload_n (q := 2080) d_Law_main_2079 rfl rfl ?_
  refine w_iload (q := 2082) d_Law_main_2080 rfl rfl ?_
  refine w_iconst (q := 2083) (v := 2) d_Law_main_2082 rfl (by decide) ?_
  refine w_iadd (q := 2084) d_Law_main_2083 rfl ?_
  obtain ⟨v2, hv, h⟩ := bnd h
  obtain ⟨hi, hv⟩ := rx_ok hv
  refine w_sld (q := 2085) d_Law_main_2084 rfl hi ?_
  rw [hv]
  refine w_aload_n (q := 2086) d_Law_main_2085 rfl rfl ?_
  obtain ⟨v3, hv, h⟩ := bnd h
  refine w_callHi (q := 2089) (M' := M_Law_ate) (n' := 6) (As := [.ref 0, .int v1, .int v2, .ref 78]) (sh' := SH) (b1 := (1, 6)) (b2 := b) d_Law_main_2086 rfl mw_Law_ate (by decide) (by decide) ml_Law_233 rfl rfl (leb rfl) rfl (fun h9 => absurd h9 (by decide)) (ok_Law_ate hv) ?_
  refine w_istore (q := 2091) (ls' := [some (.ref 2097152), some (.ref 0), some (.ref 54), some (.ref 78), some (.int i), some (.int v3.1), none]) d_Law_main_2089 rfl (by decide) rfl rfl ?_
  refine w_aload_n (q := 2092) d_Law_main_2091 rfl rfl ?_
  refine w_aload_n (q := 2093) d_Law_main_2092 rfl rfl ?_
  refine w_iload (q := 2095) d_Law_main_2093 rfl rfl ?_
  refine w_iconst (q := 2096) (v := 1) d_Law_main_2095 rfl (by decide) ?_
  refine w_iadd (q := 2097) d_Law_main_2096 rfl ?_
  obtain ⟨v4, hv, h⟩ := bnd h
  obtain ⟨hi, hv⟩ := rx_ok hv
  refine w_sld (q := 2098) d_Law_main_2097 rfl hi ?_
  rw [hv]
  refine w_aload_n (q := 2099) d_Law_main_2098 rfl rfl ?_
  refine w_iload (q := 2101) d_Law_main_2099 rfl rfl ?_
  refine w_iconst (q := 2102) (v := 2) d_Law_main_2101 rfl (by decide) ?_
  refine w_iadd (q := 2103) d_Law_main_2102 rfl ?_
  obtain ⟨v5, hv, h⟩ := bnd h
  obtain ⟨hi, hv⟩ := rx_ok hv
  refine w_sld (q := 2104) d_Law_main_2103 rfl hi ?_
  rw [hv]
  obtain ⟨v6, hv, h⟩ := bnd h
  refine w_callVi (q := 2107) (M' := M_Model_ate) (n' := 4) (k := 54) (As := [.int v4, .int v5]) (sh' := SH) (b1 := (0, 0)) d_Law_main_2104 rfl mw_Model_ate (by decide) (by decide) ml_Law_235 (by decide) s_54 (by decide) rfl rfl rfl (leb rfl) (bz _) (fun _ => rfl) (ok_Model_ate hv) ?_
  refine w_istore (q := 2109) (ls' := [some (.ref 2097152), some (.ref 0), some (.ref 54), some (.ref 78), some (.int i), some (.int v3.1), some (.int v6.1)]) d_Law_main_2107 rfl (by decide) rfl rfl ?_
  refine w_aload_n (q := 2110) d_Law_main_2109 rfl rfl ?_
  obtain ⟨v7, hv, h⟩ := bnd h
  refine w_callVi (q := 2113) (M' := M_Model_thrown) (n' := 0) (k := 54) (As := []) (sh' := SH) (b1 := (0, 0)) d_Law_main_2110 rfl mw_Model_thrown (by decide) (by decide) ml_Law_122 (by decide) s_54 (by decide) rfl rfl rfl (leb rfl) (bz _) (fun _ => rfl) (ok_Model_thrown hv) ?_
  refine w_iload (q := 2115) d_Law_main_2113 rfl rfl ?_
  by_cases c8 : v7 = v3.1
  · rw [if_pos c8] at h
    refine w_icmp_eq_t (q := 2120) d_Law_main_2115 rfl c8 ?_
    refine w_iload (q := 2122) d_Law_main_2120 rfl rfl ?_
    by_cases c9 : v3.1 = 0
    · rw [if_pos c9] at h
      refine w_if_ne_f (q := 2125) d_Law_main_2122 2137 rfl rfl c9 ?_
      refine w_aload_n (q := 2126) d_Law_main_2125 rfl rfl ?_
      refine w_iconst (q := 2127) (v := 0) d_Law_main_2126 rfl (by decide) ?_
      obtain ⟨v10, hv, h⟩ := bnd h
      obtain ⟨hi, hv⟩ := rd_ok hv
      refine w_lald (q := 2128) d_Law_main_2127 rfl l_78.2 l_78.1 hi ?_
      rw [hv]
      refine w_iload (q := 2130) d_Law_main_2128 rfl rfl ?_
      refine w_i2l (q := 2131) d_Law_main_2130 rfl ?_
      refine w_lcmp (q := 2132) d_Law_main_2131 rfl ?_
      by_cases c11 : (lg_cmp v10.toInt64 v6.1.toInt64) = 0
      · rw [if_pos c11] at h
        refine w_if_eq_t (q := 2137) d_Law_main_2132 rfl c11 ?_
        refine w_goto (q := 2313) d_Law_main_2137 rfl ?_
        cases h
        refine w_ls (ls' := [some (.ref 2097152), some (.ref 0), some (.ref 54), some (.ref 78), some (.int i), none, none]) (And.intro rfl (And.intro rfl (And.intro rfl (And.intro rfl (And.intro rfl trivial))))) ?_
        exact hr
      · rw [if_neg c11] at h
        refine w_if_eq_f (q := 2135) d_Law_main_2132 2137 rfl rfl c11 ?_
        refine w_iconst (q := 2136) (v := 0) d_Law_main_2135 rfl (by decide) ?_
        cases h
        exact hr.elim
    · rw [if_neg c9] at h
      refine w_if_ne_t (q := 2137) d_Law_main_2122 rfl c9 ?_
      refine w_goto (q := 2313) d_Law_main_2137 rfl ?_
      cases h
      refine w_ls (ls' := [some (.ref 2097152), some (.ref 0), some (.ref 54), some (.ref 78), some (.int i), none, none]) (And.intro rfl (And.intro rfl (And.intro rfl (And.intro rfl (And.intro rfl trivial))))) ?_
      exact hr
  · rw [if_neg c8] at h
    refine w_icmp_eq_f (q := 2118) d_Law_main_2115 2120 rfl rfl c8 ?_
    refine w_iconst (q := 2119) (v := 0) d_Law_main_2118 rfl (by decide) ?_
    cases h
    exact hr.elim
def sp_case_35 (F L : Nat) (xs : Nat → Int32) (i : Int32) (g : Mem) : Option (Mem ⊕ Unit) := (sp_Hall_forget g).bind fun v1 => (sp_Model_forget v1.2).bind fun v2 => if v1.1 = v2.1 then some (.inl v2.2) else some (.inr ())
theorem ok_case_35 {γ : GG} {F : Nat} {i : Int32} {g : Mem} {b : Nat × Nat} {Φ : PO} {r : Mem ⊕ Unit} (h : sp_case_35 F (gS γ).2.1 (gS γ).2.2 i g = some r) (hr : RQ (fun g9 => WA γ M_Law_main 130 2313 (lwL i) [] SH g9 false b Φ) (fun _ => False) r) : WA γ M_Law_main 130 2140 (lwL i) [] SH g false (1 + b.1, 6 + b.2) Φ := by
  unfold sp_case_35 at h
  refine w_aload_n (q := 2141) d_Law_main_2140 rfl rfl ?_
  obtain ⟨v1, hv, h⟩ := bnd h
  refine w_callVi (q := 2144) (M' := M_Hall_forget) (n' := 0) (k := 0) (As := []) (sh' := SH) (b1 := (0, 0)) d_Law_main_2141 rfl mw_Hall_forget (by decide) (by decide) ml_Law_236 (by decide) s_0 (by decide) rfl rfl rfl (leb rfl) (bz _) (fun _ => rfl) (ok_Hall_forget hv) ?_
  refine w_aload_n (q := 2145) d_Law_main_2144 rfl rfl ?_
  obtain ⟨v2, hv, h⟩ := bnd h
  refine w_callVi (q := 2148) (M' := M_Model_forget) (n' := 0) (k := 54) (As := []) (sh' := SH) (b1 := (0, 0)) d_Law_main_2145 rfl mw_Model_forget (by decide) (by decide) ml_Law_239 (by decide) s_54 (by decide) rfl rfl rfl (leb rfl) (bz _) (fun _ => rfl) (ok_Model_forget hv) ?_
  by_cases c3 : v1.1 = v2.1
  · rw [if_pos c3] at h
    refine w_icmp_eq_t (q := 2313) d_Law_main_2148 rfl c3 ?_
    cases h
    refine w_ls (ls' := [some (.ref 2097152), some (.ref 0), some (.ref 54), some (.ref 78), some (.int i), none, none]) (And.intro rfl (And.intro rfl (And.intro rfl (And.intro rfl (And.intro rfl trivial))))) ?_
    exact w_wide (Nat.le_add_left _ _) (Nat.le_add_left _ _) hr
  · rw [if_neg c3] at h
    refine w_icmp_eq_f (q := 2151) d_Law_main_2148 2313 rfl rfl c3 ?_
    refine w_iconst (q := 2152) (v := 0) d_Law_main_2151 rfl (by decide) ?_
    cases h
    exact hr.elim
def sp_case_36 (F L : Nat) (xs : Nat → Int32) (i : Int32) (g : Mem) : Option (Mem ⊕ Unit) := (rx L xs (i + 1)).bind fun v1 => (sp_Law_game F v1 g).bind fun v2 => (rx L xs (i + 1)).bind fun v3 => (sp_Model_game F v3 v2.2).bind fun v4 => (sp_Model_thrown v4.2).bind fun v5 => if v5 = v2.1 then if v2.1 = 0 then (rd v4.2 78 1 0).bind fun v8 => if (lg_cmp v8.toInt64 v4.1.toInt64) = 0 then some (.inl v4.2) else some (.inr ()) else some (.inl v4.2) else some (.inr ())
theorem ok_case_36 {γ : GG} {F : Nat} {i : Int32} {g : Mem} {b : Nat × Nat} {Φ : PO} {r : Mem ⊕ Unit} (h : sp_case_36 F (gS γ).2.1 (gS γ).2.2 i g = some r) (hr : RQ (fun g9 => WA γ M_Law_main 130 2313 (lwL i) [] SH g9 false b Φ) (fun _ => False) r) : WA γ M_Law_main 130 2153 (lwL i) [] SH g false (1 + b.1, 6 + b.2) Φ := by
  unfold sp_case_36 at h
  refine w_aload_n (q := 2154) d_Law_main_2153 rfl rfl ?_
  refine w_aload_n (q := 2155) d_Law_main_2154 rfl rfl ?_
  refine w_iload (q := 2157) d_Law_main_2155 rfl rfl ?_
  refine w_iconst (q := 2158) (v := 1) d_Law_main_2157 rfl (by decide) ?_
  refine w_iadd (q := 2159) d_Law_main_2158 rfl ?_
  obtain ⟨v1, hv, h⟩ := bnd h
  obtain ⟨hi, hv⟩ := rx_ok hv
  refine w_sld (q := 2160) d_Law_main_2159 rfl hi ?_
  rw [hv]
  refine w_aload_n (q := 2161) d_Law_main_2160 rfl rfl ?_
  obtain ⟨v2, hv, h⟩ := bnd h
  refine w_callHi (q := 2164) (M' := M_Law_game) (n' := 6) (As := [.ref 0, .int v1, .ref 78]) (sh' := SH) (b1 := (1, 6)) (b2 := b) d_Law_main_2161 rfl mw_Law_game (by decide) (by decide) ml_Law_240 rfl rfl (leb rfl) rfl (fun h9 => absurd h9 (by decide)) (ok_Law_game hv) ?_
  refine w_istore (q := 2166) (ls' := [some (.ref 2097152), some (.ref 0), some (.ref 54), some (.ref 78), some (.int i), some (.int v2.1), none]) d_Law_main_2164 rfl (by decide) rfl rfl ?_
  refine w_aload_n (q := 2167) d_Law_main_2166 rfl rfl ?_
  refine w_aload_n (q := 2168) d_Law_main_2167 rfl rfl ?_
  refine w_iload (q := 2170) d_Law_main_2168 rfl rfl ?_
  refine w_iconst (q := 2171) (v := 1) d_Law_main_2170 rfl (by decide) ?_
  refine w_iadd (q := 2172) d_Law_main_2171 rfl ?_
  obtain ⟨v3, hv, h⟩ := bnd h
  obtain ⟨hi, hv⟩ := rx_ok hv
  refine w_sld (q := 2173) d_Law_main_2172 rfl hi ?_
  rw [hv]
  obtain ⟨v4, hv, h⟩ := bnd h
  refine w_callVi (q := 2176) (M' := M_Model_game) (n' := 8) (k := 54) (As := [.int v3]) (sh' := SH) (b1 := (0, 0)) d_Law_main_2173 rfl mw_Model_game (by decide) (by decide) ml_Law_242 (by decide) s_54 (by decide) rfl rfl rfl (leb rfl) (bz _) (fun _ => rfl) (ok_Model_game hv) ?_
  refine w_istore (q := 2178) (ls' := [some (.ref 2097152), some (.ref 0), some (.ref 54), some (.ref 78), some (.int i), some (.int v2.1), some (.int v4.1)]) d_Law_main_2176 rfl (by decide) rfl rfl ?_
  refine w_aload_n (q := 2179) d_Law_main_2178 rfl rfl ?_
  obtain ⟨v5, hv, h⟩ := bnd h
  refine w_callVi (q := 2182) (M' := M_Model_thrown) (n' := 0) (k := 54) (As := []) (sh' := SH) (b1 := (0, 0)) d_Law_main_2179 rfl mw_Model_thrown (by decide) (by decide) ml_Law_122 (by decide) s_54 (by decide) rfl rfl rfl (leb rfl) (bz _) (fun _ => rfl) (ok_Model_thrown hv) ?_
  refine w_iload (q := 2184) d_Law_main_2182 rfl rfl ?_
  by_cases c6 : v5 = v2.1
  · rw [if_pos c6] at h
    refine w_icmp_eq_t (q := 2189) d_Law_main_2184 rfl c6 ?_
    refine w_iload (q := 2191) d_Law_main_2189 rfl rfl ?_
    by_cases c7 : v2.1 = 0
    · rw [if_pos c7] at h
      refine w_if_ne_f (q := 2194) d_Law_main_2191 2206 rfl rfl c7 ?_
      refine w_aload_n (q := 2195) d_Law_main_2194 rfl rfl ?_
      refine w_iconst (q := 2196) (v := 0) d_Law_main_2195 rfl (by decide) ?_
      obtain ⟨v8, hv, h⟩ := bnd h
      obtain ⟨hi, hv⟩ := rd_ok hv
      refine w_lald (q := 2197) d_Law_main_2196 rfl l_78.2 l_78.1 hi ?_
      rw [hv]
      refine w_iload (q := 2199) d_Law_main_2197 rfl rfl ?_
      refine w_i2l (q := 2200) d_Law_main_2199 rfl ?_
      refine w_lcmp (q := 2201) d_Law_main_2200 rfl ?_
      by_cases c9 : (lg_cmp v8.toInt64 v4.1.toInt64) = 0
      · rw [if_pos c9] at h
        refine w_if_eq_t (q := 2206) d_Law_main_2201 rfl c9 ?_
        refine w_goto (q := 2313) d_Law_main_2206 rfl ?_
        cases h
        refine w_ls (ls' := [some (.ref 2097152), some (.ref 0), some (.ref 54), some (.ref 78), some (.int i), none, none]) (And.intro rfl (And.intro rfl (And.intro rfl (And.intro rfl (And.intro rfl trivial))))) ?_
        exact hr
      · rw [if_neg c9] at h
        refine w_if_eq_f (q := 2204) d_Law_main_2201 2206 rfl rfl c9 ?_
        refine w_iconst (q := 2205) (v := 0) d_Law_main_2204 rfl (by decide) ?_
        cases h
        exact hr.elim
    · rw [if_neg c7] at h
      refine w_if_ne_t (q := 2206) d_Law_main_2191 rfl c7 ?_
      refine w_goto (q := 2313) d_Law_main_2206 rfl ?_
      cases h
      refine w_ls (ls' := [some (.ref 2097152), some (.ref 0), some (.ref 54), some (.ref 78), some (.int i), none, none]) (And.intro rfl (And.intro rfl (And.intro rfl (And.intro rfl (And.intro rfl trivial))))) ?_
      exact hr
  · rw [if_neg c6] at h
    refine w_icmp_eq_f (q := 2187) d_Law_main_2184 2189 rfl rfl c6 ?_
    refine w_iconst (q := 2188) (v := 0) d_Law_main_2187 rfl (by decide) ?_
    cases h
    exact hr.elim
def sp_case_37 (F L : Nat) (xs : Nat → Int32) (i : Int32) (g : Mem) : Option (Mem ⊕ Unit) := (rx L xs (i + 1)).bind fun v1 => (rx L xs (i + 2)).bind fun v2 => (rx L xs (i + 3)).bind fun v3 => (sp_Law_season F v1 v2 v3 g).bind fun v4 => (rx L xs (i + 1)).bind fun v5 => (rx L xs (i + 2)).bind fun v6 => (rx L xs (i + 3)).bind fun v7 => (sp_Model_season F v5 v6 v7 v4.2).bind fun v8 => (sp_Model_thrown v8.2).bind fun v9 => if v9 = v4.1 then if v4.1 = 0 then (rd v8.2 78 1 0).bind fun v12 => if (lg_cmp v12.toInt64 v8.1.toInt64) = 0 then some (.inl v8.2) else some (.inr ()) else some (.inl v8.2) else some (.inr ())
theorem ok_case_37 {γ : GG} {F : Nat} {i : Int32} {g : Mem} {b : Nat × Nat} {Φ : PO} {r : Mem ⊕ Unit} (h : sp_case_37 F (gS γ).2.1 (gS γ).2.2 i g = some r) (hr : RQ (fun g9 => WA γ M_Law_main 130 2313 (lwL i) [] SH g9 false b Φ) (fun _ => False) r) : WA γ M_Law_main 130 2209 (lwL i) [] SH g false (1 + b.1, 6 + b.2) Φ := by
  unfold sp_case_37 at h
  refine w_aload_n (q := 2210) d_Law_main_2209 rfl rfl ?_
  refine w_aload_n (q := 2211) d_Law_main_2210 rfl rfl ?_
  refine w_iload (q := 2213) d_Law_main_2211 rfl rfl ?_
  refine w_iconst (q := 2214) (v := 1) d_Law_main_2213 rfl (by decide) ?_
  refine w_iadd (q := 2215) d_Law_main_2214 rfl ?_
  obtain ⟨v1, hv, h⟩ := bnd h
  obtain ⟨hi, hv⟩ := rx_ok hv
  refine w_sld (q := 2216) d_Law_main_2215 rfl hi ?_
  rw [hv]
  refine w_aload_n (q := 2217) d_Law_main_2216 rfl rfl ?_
  refine w_iload (q := 2219) d_Law_main_2217 rfl rfl ?_
  refine w_iconst (q := 2220) (v := 2) d_Law_main_2219 rfl (by decide) ?_
  refine w_iadd (q := 2221) d_Law_main_2220 rfl ?_
  obtain ⟨v2, hv, h⟩ := bnd h
  obtain ⟨hi, hv⟩ := rx_ok hv
  refine w_sld (q := 2222) d_Law_main_2221 rfl hi ?_
  rw [hv]
  refine w_aload_n (q := 2223) d_Law_main_2222 rfl rfl ?_
  refine w_iload (q := 2225) d_Law_main_2223 rfl rfl ?_
  refine w_iconst (q := 2226) (v := 3) d_Law_main_2225 rfl (by decide) ?_
  refine w_iadd (q := 2227) d_Law_main_2226 rfl ?_
  obtain ⟨v3, hv, h⟩ := bnd h
  obtain ⟨hi, hv⟩ := rx_ok hv
  refine w_sld (q := 2228) d_Law_main_2227 rfl hi ?_
  rw [hv]
  refine w_aload_n (q := 2229) d_Law_main_2228 rfl rfl ?_
  obtain ⟨v4, hv, h⟩ := bnd h
  refine w_callHi (q := 2232) (M' := M_Law_season) (n' := 8) (As := [.ref 0, .int v1, .int v2, .int v3, .ref 78]) (sh' := SH) (b1 := (1, 6)) (b2 := b) d_Law_main_2229 rfl mw_Law_season (by decide) (by decide) ml_Law_243 rfl rfl (leb rfl) rfl (fun h9 => absurd h9 (by decide)) (ok_Law_season hv) ?_
  refine w_istore (q := 2234) (ls' := [some (.ref 2097152), some (.ref 0), some (.ref 54), some (.ref 78), some (.int i), some (.int v4.1), none]) d_Law_main_2232 rfl (by decide) rfl rfl ?_
  refine w_aload_n (q := 2235) d_Law_main_2234 rfl rfl ?_
  refine w_aload_n (q := 2236) d_Law_main_2235 rfl rfl ?_
  refine w_iload (q := 2238) d_Law_main_2236 rfl rfl ?_
  refine w_iconst (q := 2239) (v := 1) d_Law_main_2238 rfl (by decide) ?_
  refine w_iadd (q := 2240) d_Law_main_2239 rfl ?_
  obtain ⟨v5, hv, h⟩ := bnd h
  obtain ⟨hi, hv⟩ := rx_ok hv
  refine w_sld (q := 2241) d_Law_main_2240 rfl hi ?_
  rw [hv]
  refine w_aload_n (q := 2242) d_Law_main_2241 rfl rfl ?_
  refine w_iload (q := 2244) d_Law_main_2242 rfl rfl ?_
  refine w_iconst (q := 2245) (v := 2) d_Law_main_2244 rfl (by decide) ?_
  refine w_iadd (q := 2246) d_Law_main_2245 rfl ?_
  obtain ⟨v6, hv, h⟩ := bnd h
  obtain ⟨hi, hv⟩ := rx_ok hv
  refine w_sld (q := 2247) d_Law_main_2246 rfl hi ?_
  rw [hv]
  refine w_aload_n (q := 2248) d_Law_main_2247 rfl rfl ?_
  refine w_iload (q := 2250) d_Law_main_2248 rfl rfl ?_
  refine w_iconst (q := 2251) (v := 3) d_Law_main_2250 rfl (by decide) ?_
  refine w_iadd (q := 2252) d_Law_main_2251 rfl ?_
  obtain ⟨v7, hv, h⟩ := bnd h
  obtain ⟨hi, hv⟩ := rx_ok hv
  refine w_sld (q := 2253) d_Law_main_2252 rfl hi ?_
  rw [hv]
  obtain ⟨v8, hv, h⟩ := bnd h
  refine w_callVi (q := 2256) (M' := M_Model_season) (n' := 5) (k := 54) (As := [.int v5, .int v6, .int v7]) (sh' := SH) (b1 := (0, 0)) d_Law_main_2253 rfl mw_Model_season (by decide) (by decide) ml_Law_245 (by decide) s_54 (by decide) rfl rfl rfl (leb rfl) (bz _) (fun _ => rfl) (ok_Model_season hv) ?_
  refine w_istore (q := 2258) (ls' := [some (.ref 2097152), some (.ref 0), some (.ref 54), some (.ref 78), some (.int i), some (.int v4.1), some (.int v8.1)]) d_Law_main_2256 rfl (by decide) rfl rfl ?_
  refine w_aload_n (q := 2259) d_Law_main_2258 rfl rfl ?_
  obtain ⟨v9, hv, h⟩ := bnd h
  refine w_callVi (q := 2262) (M' := M_Model_thrown) (n' := 0) (k := 54) (As := []) (sh' := SH) (b1 := (0, 0)) d_Law_main_2259 rfl mw_Model_thrown (by decide) (by decide) ml_Law_122 (by decide) s_54 (by decide) rfl rfl rfl (leb rfl) (bz _) (fun _ => rfl) (ok_Model_thrown hv) ?_
  refine w_iload (q := 2264) d_Law_main_2262 rfl rfl ?_
  by_cases c10 : v9 = v4.1
  · rw [if_pos c10] at h
    refine w_icmp_eq_t (q := 2269) d_Law_main_2264 rfl c10 ?_
    refine w_iload (q := 2271) d_Law_main_2269 rfl rfl ?_
    by_cases c11 : v4.1 = 0
    · rw [if_pos c11] at h
      refine w_if_ne_f (q := 2274) d_Law_main_2271 2286 rfl rfl c11 ?_
      refine w_aload_n (q := 2275) d_Law_main_2274 rfl rfl ?_
      refine w_iconst (q := 2276) (v := 0) d_Law_main_2275 rfl (by decide) ?_
      obtain ⟨v12, hv, h⟩ := bnd h
      obtain ⟨hi, hv⟩ := rd_ok hv
      refine w_lald (q := 2277) d_Law_main_2276 rfl l_78.2 l_78.1 hi ?_
      rw [hv]
      refine w_iload (q := 2279) d_Law_main_2277 rfl rfl ?_
      refine w_i2l (q := 2280) d_Law_main_2279 rfl ?_
      refine w_lcmp (q := 2281) d_Law_main_2280 rfl ?_
      by_cases c13 : (lg_cmp v12.toInt64 v8.1.toInt64) = 0
      · rw [if_pos c13] at h
        refine w_if_eq_t (q := 2286) d_Law_main_2281 rfl c13 ?_
        refine w_goto (q := 2313) d_Law_main_2286 rfl ?_
        cases h
        refine w_ls (ls' := [some (.ref 2097152), some (.ref 0), some (.ref 54), some (.ref 78), some (.int i), none, none]) (And.intro rfl (And.intro rfl (And.intro rfl (And.intro rfl (And.intro rfl trivial))))) ?_
        exact hr
      · rw [if_neg c13] at h
        refine w_if_eq_f (q := 2284) d_Law_main_2281 2286 rfl rfl c13 ?_
        refine w_iconst (q := 2285) (v := 0) d_Law_main_2284 rfl (by decide) ?_
        cases h
        exact hr.elim
    · rw [if_neg c11] at h
      refine w_if_ne_t (q := 2286) d_Law_main_2271 rfl c11 ?_
      refine w_goto (q := 2313) d_Law_main_2286 rfl ?_
      cases h
      refine w_ls (ls' := [some (.ref 2097152), some (.ref 0), some (.ref 54), some (.ref 78), some (.int i), none, none]) (And.intro rfl (And.intro rfl (And.intro rfl (And.intro rfl (And.intro rfl trivial))))) ?_
      exact hr
  · rw [if_neg c10] at h
    refine w_icmp_eq_f (q := 2267) d_Law_main_2264 2269 rfl rfl c10 ?_
    refine w_iconst (q := 2268) (v := 0) d_Law_main_2267 rfl (by decide) ?_
    cases h
    exact hr.elim
def sp_case_38 (F L : Nat) (xs : Nat → Int32) (i : Int32) (g : Mem) : Option (Mem ⊕ Unit) := (sp_Hall_image g).bind fun v1 => (sp_Model_image F v1).bind fun v2 => some (.inl v2)
theorem ok_case_38 {γ : GG} {F : Nat} {i : Int32} {g : Mem} {b : Nat × Nat} {Φ : PO} {r : Mem ⊕ Unit} (h : sp_case_38 F (gS γ).2.1 (gS γ).2.2 i g = some r) (hr : RQ (fun g9 => WA γ M_Law_main 130 2313 (lwL i) [] SH g9 false b Φ) (fun _ => False) r) : WA γ M_Law_main 130 2289 (lwL i) [] SH g false (1 + b.1, 6 + b.2) Φ := by
  unfold sp_case_38 at h
  refine w_aload_n (q := 2290) d_Law_main_2289 rfl rfl ?_
  obtain ⟨v1, hv, h⟩ := bnd h
  refine w_callVv (q := 2293) (M' := M_Hall_image) (n' := 1) (k := 0) (As := []) (sh' := SH) (b1 := (0, 0)) d_Law_main_2290 rfl mw_Hall_image (by decide) (by decide) ml_Law_246 (by decide) s_0 (by decide) rfl rfl rfl (leb rfl) (bz _) (fun _ => rfl) (ok_Hall_image hv) ?_
  refine w_aload_n (q := 2294) d_Law_main_2293 rfl rfl ?_
  obtain ⟨v2, hv, h⟩ := bnd h
  refine w_callVv (q := 2297) (M' := M_Model_image) (n' := 1) (k := 54) (As := []) (sh' := SH) (b1 := (0, 0)) d_Law_main_2294 rfl mw_Model_image (by decide) (by decide) ml_Law_249 (by decide) s_54 (by decide) rfl rfl rfl (leb rfl) (bz _) (fun _ => rfl) (ok_Model_image hv) ?_
  refine w_goto (q := 2313) d_Law_main_2297 rfl ?_
  cases h
  refine w_ls (ls' := [some (.ref 2097152), some (.ref 0), some (.ref 54), some (.ref 78), some (.int i), none, none]) (And.intro rfl (And.intro rfl (And.intro rfl (And.intro rfl (And.intro rfl trivial))))) ?_
  exact w_wide (Nat.le_add_left _ _) (Nat.le_add_left _ _) hr
def sp_case_39 (F L : Nat) (xs : Nat → Int32) (i : Int32) (g : Mem) : Option (Mem ⊕ Unit) := (sp_Hall_restore g).bind fun v1 => (sp_Model_restore F v1.2).bind fun v2 => if v1.1 = v2.1 then some (.inl v2.2) else some (.inr ())
theorem ok_case_39 {γ : GG} {F : Nat} {i : Int32} {g : Mem} {b : Nat × Nat} {Φ : PO} {r : Mem ⊕ Unit} (h : sp_case_39 F (gS γ).2.1 (gS γ).2.2 i g = some r) (hr : RQ (fun g9 => WA γ M_Law_main 130 2313 (lwL i) [] SH g9 false b Φ) (fun _ => False) r) : WA γ M_Law_main 130 2300 (lwL i) [] SH g false (1 + b.1, 6 + b.2) Φ := by
  unfold sp_case_39 at h
  refine w_aload_n (q := 2301) d_Law_main_2300 rfl rfl ?_
  obtain ⟨v1, hv, h⟩ := bnd h
  refine w_callVi (q := 2304) (M' := M_Hall_restore) (n' := 1) (k := 0) (As := []) (sh' := SH) (b1 := (0, 0)) d_Law_main_2301 rfl mw_Hall_restore (by decide) (by decide) ml_Law_250 (by decide) s_0 (by decide) rfl rfl rfl (leb rfl) (bz _) (fun _ => rfl) (ok_Hall_restore hv) ?_
  refine w_aload_n (q := 2305) d_Law_main_2304 rfl rfl ?_
  obtain ⟨v2, hv, h⟩ := bnd h
  refine w_callVi (q := 2308) (M' := M_Model_restore) (n' := 1) (k := 54) (As := []) (sh' := SH) (b1 := (0, 0)) d_Law_main_2305 rfl mw_Model_restore (by decide) (by decide) ml_Law_254 (by decide) s_54 (by decide) rfl rfl rfl (leb rfl) (bz _) (fun _ => rfl) (ok_Model_restore hv) ?_
  by_cases c3 : v1.1 = v2.1
  · rw [if_pos c3] at h
    refine w_icmp_eq_t (q := 2313) d_Law_main_2308 rfl c3 ?_
    cases h
    refine w_ls (ls' := [some (.ref 2097152), some (.ref 0), some (.ref 54), some (.ref 78), some (.int i), none, none]) (And.intro rfl (And.intro rfl (And.intro rfl (And.intro rfl (And.intro rfl trivial))))) ?_
    exact w_wide (Nat.le_add_left _ _) (Nat.le_add_left _ _) hr
  · rw [if_neg c3] at h
    refine w_icmp_eq_f (q := 2311) d_Law_main_2308 2313 rfl rfl c3 ?_
    refine w_iconst (q := 2312) (v := 0) d_Law_main_2311 rfl (by decide) ?_
    cases h
    exact hr.elim
def sp_sw (F L : Nat) (xs : Nat → Int32) (i : Int32) (g : Mem) (c : Int32) : Option (Mem ⊕ Unit) := if c = 0 then sp_case_0 F L xs i g else if c = 1 then sp_case_1 F L xs i g else if c = 2 then sp_case_2 F L xs i g else if c = 3 then sp_case_3 F L xs i g else if c = 4 then sp_case_4 F L xs i g else if c = 5 then sp_case_5 F L xs i g else if c = 6 then sp_case_6 F L xs i g else if c = 7 then sp_case_7 F L xs i g else if c = 8 then sp_case_8 F L xs i g else if c = 9 then sp_case_9 F L xs i g else if c = 10 then sp_case_10 F L xs i g else if c = 11 then sp_case_11 F L xs i g else if c = 12 then sp_case_12 F L xs i g else if c = 13 then sp_case_13 F L xs i g else if c = 14 then sp_case_14 F L xs i g else if c = 15 then sp_case_15 F L xs i g else if c = 16 then sp_case_16 F L xs i g else if c = 17 then sp_case_17 F L xs i g else if c = 18 then sp_case_18 F L xs i g else if c = 19 then sp_case_19 F L xs i g else if c = 20 then sp_case_20 F L xs i g else if c = 21 then sp_case_21 F L xs i g else if c = 22 then sp_case_22 F L xs i g else if c = 23 then sp_case_23 F L xs i g else if c = 24 then sp_case_24 F L xs i g else if c = 25 then sp_case_25 F L xs i g else if c = 26 then sp_case_26 F L xs i g else if c = 27 then sp_case_27 F L xs i g else if c = 28 then sp_case_28 F L xs i g else if c = 29 then sp_case_29 F L xs i g else if c = 30 then sp_case_30 F L xs i g else if c = 31 then sp_case_31 F L xs i g else if c = 32 then sp_case_32 F L xs i g else if c = 33 then sp_case_33 F L xs i g else if c = 34 then sp_case_34 F L xs i g else if c = 35 then sp_case_35 F L xs i g else if c = 36 then sp_case_36 F L xs i g else if c = 37 then sp_case_37 F L xs i g else if c = 38 then sp_case_38 F L xs i g else if c = 39 then sp_case_39 F L xs i g else some (.inl g)
set_option maxRecDepth 100000 in
set_option maxHeartbeats 4000000 in
theorem ok_sw {γ : GG} {F : Nat} {i : Int32} {g : Mem} {b : Nat × Nat} {Φ : PO} {r : Mem ⊕ Unit} {c : Int32} (h : sp_sw F (gS γ).2.1 (gS γ).2.2 i g c = some r) (hr : RQ (fun g9 => WA γ M_Law_main 130 2313 (lwL i) [] SH g9 false b Φ) (fun _ => False) r) : WA γ M_Law_main 130 40 (lwL i) [.int c] SH g false (1 + b.1, 6 + b.2) Φ := by
  unfold sp_sw at h
  by_cases c0 : c = 0
  · rw [if_pos c0] at h
    refine w_tabIn (q := 216) (off := 176) d_Law_main_40 (by rw [c0]; decide) (by rw [c0]; decide) (by rw [c0]; decide +kernel) rfl ?_
    exact ok_case_0 h hr
  rw [if_neg c0] at h
  by_cases c1 : c = 1
  · rw [if_pos c1] at h
    refine w_tabIn (q := 289) (off := 249) d_Law_main_40 (by rw [c1]; decide) (by rw [c1]; decide) (by rw [c1]; decide +kernel) rfl ?_
    exact ok_case_1 h hr
  rw [if_neg c1] at h
  by_cases c2 : c = 2
  · rw [if_pos c2] at h
    refine w_tabIn (q := 345) (off := 305) d_Law_main_40 (by rw [c2]; decide) (by rw [c2]; decide) (by rw [c2]; decide +kernel) rfl ?_
    exact ok_case_2 h hr
  rw [if_neg c2] at h
  by_cases c3 : c = 3
  · rw [if_pos c3] at h
    refine w_tabIn (q := 358) (off := 318) d_Law_main_40 (by rw [c3]; decide) (by rw [c3]; decide) (by rw [c3]; decide +kernel) rfl ?_
    exact ok_case_3 h hr
  rw [if_neg c3] at h
  by_cases c4 : c = 4
  · rw [if_pos c4] at h
    refine w_tabIn (q := 414) (off := 374) d_Law_main_40 (by rw [c4]; decide) (by rw [c4]; decide) (by rw [c4]; decide +kernel) rfl ?_
    exact ok_case_4 h hr
  rw [if_neg c4] at h
  by_cases c5 : c = 5
  · rw [if_pos c5] at h
    refine w_tabIn (q := 482) (off := 442) d_Law_main_40 (by rw [c5]; decide) (by rw [c5]; decide) (by rw [c5]; decide +kernel) rfl ?_
    exact ok_case_5 h hr
  rw [if_neg c5] at h
  by_cases c6 : c = 6
  · rw [if_pos c6] at h
    refine w_tabIn (q := 550) (off := 510) d_Law_main_40 (by rw [c6]; decide) (by rw [c6]; decide) (by rw [c6]; decide +kernel) rfl ?_
    exact ok_case_6 h hr
  rw [if_neg c6] at h
  by_cases c7 : c = 7
  · rw [if_pos c7] at h
    refine w_tabIn (q := 606) (off := 566) d_Law_main_40 (by rw [c7]; decide) (by rw [c7]; decide) (by rw [c7]; decide +kernel) rfl ?_
    exact ok_case_7 h hr
  rw [if_neg c7] at h
  by_cases c8 : c = 8
  · rw [if_pos c8] at h
    refine w_tabIn (q := 681) (off := 641) d_Law_main_40 (by rw [c8]; decide) (by rw [c8]; decide) (by rw [c8]; decide +kernel) rfl ?_
    exact ok_case_8 h hr
  rw [if_neg c8] at h
  by_cases c9 : c = 9
  · rw [if_pos c9] at h
    refine w_tabIn (q := 706) (off := 666) d_Law_main_40 (by rw [c9]; decide) (by rw [c9]; decide) (by rw [c9]; decide +kernel) rfl ?_
    exact ok_case_9 h hr
  rw [if_neg c9] at h
  by_cases c10 : c = 10
  · rw [if_pos c10] at h
    refine w_tabIn (q := 798) (off := 758) d_Law_main_40 (by rw [c10]; decide) (by rw [c10]; decide) (by rw [c10]; decide +kernel) rfl ?_
    exact ok_case_10 h hr
  rw [if_neg c10] at h
  by_cases c11 : c = 11
  · rw [if_pos c11] at h
    refine w_tabIn (q := 866) (off := 826) d_Law_main_40 (by rw [c11]; decide) (by rw [c11]; decide) (by rw [c11]; decide +kernel) rfl ?_
    exact ok_case_11 h hr
  rw [if_neg c11] at h
  by_cases c12 : c = 12
  · rw [if_pos c12] at h
    refine w_tabIn (q := 929) (off := 889) d_Law_main_40 (by rw [c12]; decide) (by rw [c12]; decide) (by rw [c12]; decide +kernel) rfl ?_
    exact ok_case_12 h hr
  rw [if_neg c12] at h
  by_cases c13 : c = 13
  · rw [if_pos c13] at h
    refine w_tabIn (q := 992) (off := 952) d_Law_main_40 (by rw [c13]; decide) (by rw [c13]; decide) (by rw [c13]; decide +kernel) rfl ?_
    exact ok_case_13 h hr
  rw [if_neg c13] at h
  by_cases c14 : c = 14
  · rw [if_pos c14] at h
    refine w_tabIn (q := 1060) (off := 1020) d_Law_main_40 (by rw [c14]; decide) (by rw [c14]; decide) (by rw [c14]; decide +kernel) rfl ?_
    exact ok_case_14 h hr
  rw [if_neg c14] at h
  by_cases c15 : c = 15
  · rw [if_pos c15] at h
    refine w_tabIn (q := 1140) (off := 1100) d_Law_main_40 (by rw [c15]; decide) (by rw [c15]; decide) (by rw [c15]; decide +kernel) rfl ?_
    exact ok_case_15 h hr
  rw [if_neg c15] at h
  by_cases c16 : c = 16
  · rw [if_pos c16] at h
    refine w_tabIn (q := 1203) (off := 1163) d_Law_main_40 (by rw [c16]; decide) (by rw [c16]; decide) (by rw [c16]; decide +kernel) rfl ?_
    exact ok_case_16 h hr
  rw [if_neg c16] at h
  by_cases c17 : c = 17
  · rw [if_pos c17] at h
    refine w_tabIn (q := 1216) (off := 1176) d_Law_main_40 (by rw [c17]; decide) (by rw [c17]; decide) (by rw [c17]; decide +kernel) rfl ?_
    exact ok_case_17 h hr
  rw [if_neg c17] at h
  by_cases c18 : c = 18
  · rw [if_pos c18] at h
    refine w_tabIn (q := 1272) (off := 1232) d_Law_main_40 (by rw [c18]; decide) (by rw [c18]; decide) (by rw [c18]; decide +kernel) rfl ?_
    exact ok_case_18 h hr
  rw [if_neg c18] at h
  by_cases c19 : c = 19
  · rw [if_pos c19] at h
    refine w_tabIn (q := 1285) (off := 1245) d_Law_main_40 (by rw [c19]; decide) (by rw [c19]; decide) (by rw [c19]; decide +kernel) rfl ?_
    exact ok_case_19 h hr
  rw [if_neg c19] at h
  by_cases c20 : c = 20
  · rw [if_pos c20] at h
    refine w_tabIn (q := 1341) (off := 1301) d_Law_main_40 (by rw [c20]; decide) (by rw [c20]; decide) (by rw [c20]; decide +kernel) rfl ?_
    exact ok_case_20 h hr
  rw [if_neg c20] at h
  by_cases c21 : c = 21
  · rw [if_pos c21] at h
    refine w_tabIn (q := 1354) (off := 1314) d_Law_main_40 (by rw [c21]; decide) (by rw [c21]; decide) (by rw [c21]; decide +kernel) rfl ?_
    exact ok_case_21 h hr
  rw [if_neg c21] at h
  by_cases c22 : c = 22
  · rw [if_pos c22] at h
    refine w_tabIn (q := 1367) (off := 1327) d_Law_main_40 (by rw [c22]; decide) (by rw [c22]; decide) (by rw [c22]; decide +kernel) rfl ?_
    exact ok_case_22 h hr
  rw [if_neg c22] at h
  by_cases c23 : c = 23
  · rw [if_pos c23] at h
    refine w_tabIn (q := 1423) (off := 1383) d_Law_main_40 (by rw [c23]; decide) (by rw [c23]; decide) (by rw [c23]; decide +kernel) rfl ?_
    exact ok_case_23 h hr
  rw [if_neg c23] at h
  by_cases c24 : c = 24
  · rw [if_pos c24] at h
    refine w_tabIn (q := 1479) (off := 1439) d_Law_main_40 (by rw [c24]; decide) (by rw [c24]; decide) (by rw [c24]; decide +kernel) rfl ?_
    exact ok_case_24 h hr
  rw [if_neg c24] at h
  by_cases c25 : c = 25
  · rw [if_pos c25] at h
    refine w_tabIn (q := 1559) (off := 1519) d_Law_main_40 (by rw [c25]; decide) (by rw [c25]; decide) (by rw [c25]; decide +kernel) rfl ?_
    exact ok_case_25 h hr
  rw [if_neg c25] at h
  by_cases c26 : c = 26
  · rw [if_pos c26] at h
    refine w_tabIn (q := 1627) (off := 1587) d_Law_main_40 (by rw [c26]; decide) (by rw [c26]; decide) (by rw [c26]; decide +kernel) rfl ?_
    exact ok_case_26 h hr
  rw [if_neg c26] at h
  by_cases c27 : c = 27
  · rw [if_pos c27] at h
    refine w_tabIn (q := 1695) (off := 1655) d_Law_main_40 (by rw [c27]; decide) (by rw [c27]; decide) (by rw [c27]; decide +kernel) rfl ?_
    exact ok_case_27 h hr
  rw [if_neg c27] at h
  by_cases c28 : c = 28
  · rw [if_pos c28] at h
    refine w_tabIn (q := 1751) (off := 1711) d_Law_main_40 (by rw [c28]; decide) (by rw [c28]; decide) (by rw [c28]; decide +kernel) rfl ?_
    exact ok_case_28 h hr
  rw [if_neg c28] at h
  by_cases c29 : c = 29
  · rw [if_pos c29] at h
    refine w_tabIn (q := 1807) (off := 1767) d_Law_main_40 (by rw [c29]; decide) (by rw [c29]; decide) (by rw [c29]; decide +kernel) rfl ?_
    exact ok_case_29 h hr
  rw [if_neg c29] at h
  by_cases c30 : c = 30
  · rw [if_pos c30] at h
    refine w_tabIn (q := 1863) (off := 1823) d_Law_main_40 (by rw [c30]; decide) (by rw [c30]; decide) (by rw [c30]; decide +kernel) rfl ?_
    exact ok_case_30 h hr
  rw [if_neg c30] at h
  by_cases c31 : c = 31
  · rw [if_pos c31] at h
    refine w_tabIn (q := 1876) (off := 1836) d_Law_main_40 (by rw [c31]; decide) (by rw [c31]; decide) (by rw [c31]; decide +kernel) rfl ?_
    exact ok_case_31 h hr
  rw [if_neg c31] at h
  by_cases c32 : c = 32
  · rw [if_pos c32] at h
    refine w_tabIn (q := 1932) (off := 1892) d_Law_main_40 (by rw [c32]; decide) (by rw [c32]; decide) (by rw [c32]; decide +kernel) rfl ?_
    exact ok_case_32 h hr
  rw [if_neg c32] at h
  by_cases c33 : c = 33
  · rw [if_pos c33] at h
    refine w_tabIn (q := 1988) (off := 1948) d_Law_main_40 (by rw [c33]; decide) (by rw [c33]; decide) (by rw [c33]; decide +kernel) rfl ?_
    exact ok_case_33 h hr
  rw [if_neg c33] at h
  by_cases c34 : c = 34
  · rw [if_pos c34] at h
    refine w_tabIn (q := 2072) (off := 2032) d_Law_main_40 (by rw [c34]; decide) (by rw [c34]; decide) (by rw [c34]; decide +kernel) rfl ?_
    exact ok_case_34 h hr
  rw [if_neg c34] at h
  by_cases c35 : c = 35
  · rw [if_pos c35] at h
    refine w_tabIn (q := 2140) (off := 2100) d_Law_main_40 (by rw [c35]; decide) (by rw [c35]; decide) (by rw [c35]; decide +kernel) rfl ?_
    exact ok_case_35 h hr
  rw [if_neg c35] at h
  by_cases c36 : c = 36
  · rw [if_pos c36] at h
    refine w_tabIn (q := 2153) (off := 2113) d_Law_main_40 (by rw [c36]; decide) (by rw [c36]; decide) (by rw [c36]; decide +kernel) rfl ?_
    exact ok_case_36 h hr
  rw [if_neg c36] at h
  by_cases c37 : c = 37
  · rw [if_pos c37] at h
    refine w_tabIn (q := 2209) (off := 2169) d_Law_main_40 (by rw [c37]; decide) (by rw [c37]; decide) (by rw [c37]; decide +kernel) rfl ?_
    exact ok_case_37 h hr
  rw [if_neg c37] at h
  by_cases c38 : c = 38
  · rw [if_pos c38] at h
    refine w_tabIn (q := 2289) (off := 2249) d_Law_main_40 (by rw [c38]; decide) (by rw [c38]; decide) (by rw [c38]; decide +kernel) rfl ?_
    exact ok_case_38 h hr
  rw [if_neg c38] at h
  by_cases c39 : c = 39
  · rw [if_pos c39] at h
    refine w_tabIn (q := 2300) (off := 2260) d_Law_main_40 (by rw [c39]; decide) (by rw [c39]; decide) (by rw [c39]; decide +kernel) rfl ?_
    exact ok_case_39 h hr
  rw [if_neg c39] at h
  have hsw : c.toInt < 0 ∨ 39 < c.toInt := by
    refine sw_out (fun z h1 h2 e => ?_)
    have h9 : z = 0 ∨ z = 1 ∨ z = 2 ∨ z = 3 ∨ z = 4 ∨ z = 5 ∨ z = 6 ∨ z = 7 ∨ z = 8 ∨ z = 9 ∨ z = 10 ∨ z = 11 ∨ z = 12 ∨ z = 13 ∨ z = 14 ∨ z = 15 ∨ z = 16 ∨ z = 17 ∨ z = 18 ∨ z = 19 ∨ z = 20 ∨ z = 21 ∨ z = 22 ∨ z = 23 ∨ z = 24 ∨ z = 25 ∨ z = 26 ∨ z = 27 ∨ z = 28 ∨ z = 29 ∨ z = 30 ∨ z = 31 ∨ z = 32 ∨ z = 33 ∨ z = 34 ∨ z = 35 ∨ z = 36 ∨ z = 37 ∨ z = 38 ∨ z = 39 := by omega
    rcases h9 with rfl | rfl | rfl | rfl | rfl | rfl | rfl | rfl | rfl | rfl | rfl | rfl | rfl | rfl | rfl | rfl | rfl | rfl | rfl | rfl | rfl | rfl | rfl | rfl | rfl | rfl | rfl | rfl | rfl | rfl | rfl | rfl | rfl | rfl | rfl | rfl | rfl | rfl | rfl | rfl
    · exact c0 (Int32.toInt_inj.mp (e.trans (by decide)))
    · exact c1 (Int32.toInt_inj.mp (e.trans (by decide)))
    · exact c2 (Int32.toInt_inj.mp (e.trans (by decide)))
    · exact c3 (Int32.toInt_inj.mp (e.trans (by decide)))
    · exact c4 (Int32.toInt_inj.mp (e.trans (by decide)))
    · exact c5 (Int32.toInt_inj.mp (e.trans (by decide)))
    · exact c6 (Int32.toInt_inj.mp (e.trans (by decide)))
    · exact c7 (Int32.toInt_inj.mp (e.trans (by decide)))
    · exact c8 (Int32.toInt_inj.mp (e.trans (by decide)))
    · exact c9 (Int32.toInt_inj.mp (e.trans (by decide)))
    · exact c10 (Int32.toInt_inj.mp (e.trans (by decide)))
    · exact c11 (Int32.toInt_inj.mp (e.trans (by decide)))
    · exact c12 (Int32.toInt_inj.mp (e.trans (by decide)))
    · exact c13 (Int32.toInt_inj.mp (e.trans (by decide)))
    · exact c14 (Int32.toInt_inj.mp (e.trans (by decide)))
    · exact c15 (Int32.toInt_inj.mp (e.trans (by decide)))
    · exact c16 (Int32.toInt_inj.mp (e.trans (by decide)))
    · exact c17 (Int32.toInt_inj.mp (e.trans (by decide)))
    · exact c18 (Int32.toInt_inj.mp (e.trans (by decide)))
    · exact c19 (Int32.toInt_inj.mp (e.trans (by decide)))
    · exact c20 (Int32.toInt_inj.mp (e.trans (by decide)))
    · exact c21 (Int32.toInt_inj.mp (e.trans (by decide)))
    · exact c22 (Int32.toInt_inj.mp (e.trans (by decide)))
    · exact c23 (Int32.toInt_inj.mp (e.trans (by decide)))
    · exact c24 (Int32.toInt_inj.mp (e.trans (by decide)))
    · exact c25 (Int32.toInt_inj.mp (e.trans (by decide)))
    · exact c26 (Int32.toInt_inj.mp (e.trans (by decide)))
    · exact c27 (Int32.toInt_inj.mp (e.trans (by decide)))
    · exact c28 (Int32.toInt_inj.mp (e.trans (by decide)))
    · exact c29 (Int32.toInt_inj.mp (e.trans (by decide)))
    · exact c30 (Int32.toInt_inj.mp (e.trans (by decide)))
    · exact c31 (Int32.toInt_inj.mp (e.trans (by decide)))
    · exact c32 (Int32.toInt_inj.mp (e.trans (by decide)))
    · exact c33 (Int32.toInt_inj.mp (e.trans (by decide)))
    · exact c34 (Int32.toInt_inj.mp (e.trans (by decide)))
    · exact c35 (Int32.toInt_inj.mp (e.trans (by decide)))
    · exact c36 (Int32.toInt_inj.mp (e.trans (by decide)))
    · exact c37 (Int32.toInt_inj.mp (e.trans (by decide)))
    · exact c38 (Int32.toInt_inj.mp (e.trans (by decide)))
    · exact c39 (Int32.toInt_inj.mp (e.trans (by decide)))
  refine w_tabOut (q := 2313) d_Law_main_40 hsw rfl ?_
  cases h
  exact w_wide (Nat.le_add_left _ _) (Nat.le_add_left _ _) hr
