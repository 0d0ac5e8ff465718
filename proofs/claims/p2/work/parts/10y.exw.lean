/-! the words of the two exceptions -/
abbrev exN : List String := ["java/lang/Exception"]
abbrev exS : String := "java/lang/RuntimeException"
abbrev exI : String := "java/lang/IllegalArgumentException"
abbrev exE : String := "java/util/NoSuchElementException"
theorem exW_iae : ∀ w ∈ xt_at "BeardHall" 114 exI 7 prog_19_method_2_code exS exN, w ∈ lwg := by decide +kernel
theorem exW_nse : ∀ w ∈ xt_at "BeardHall" 179 exE 13 prog_31_method_4_code exS exN, w ∈ lwg := by decide +kernel
theorem exG_iae : ∀ w ∈ Cond.classLink "BeardHall" 110 exI :: Cond.initialized exI :: xt_at "BeardHall" 114 exI 7 prog_19_method_2_code exS exN, vx_ot w = true := by decide +kernel
theorem exG_nse : ∀ w ∈ Cond.classLink "BeardHall" 175 exE :: Cond.initialized exE :: xt_at "BeardHall" 179 exE 13 prog_31_method_4_code exS exN, vx_ot w = true := by decide +kernel
theorem exF : Bundle.fit exI = true ∧ Bundle.fit exE = true ∧ Bundle.fit exS = true ∧ ∀ n ∈ exN, Bundle.fit n = true := by decide +kernel
theorem exB_iae : decode prog_19_method_2_code 0 = .ok (.aload_n 0, 1) ∧ decode prog_19_method_2_code 1 = .ok (.aload_n 1, 1) ∧ decode prog_19_method_2_code 2 = .ok (.invokespecial 7, 3) ∧ decode prog_19_method_2_code 5 = .ok (.return_, 1) := by decide +kernel
theorem exB_nse : decode prog_31_method_4_code 0 = .ok (.aload_n 0, 1) ∧ decode prog_31_method_4_code 1 = .ok (.aload_n 1, 1) ∧ decode prog_31_method_4_code 2 = .ok (.invokespecial 13, 3) ∧ decode prog_31_method_4_code 5 = .ok (.return_, 1) := by decide +kernel
