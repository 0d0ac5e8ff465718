/-! the first call on a fresh object: both sides answer alike (by program: wip/gen/p1eval.py) -/
def G0 : Mem := GF (fun _ _ => 0)
def okc (r : Option (Mem ⊕ Unit)) : Bool := match r with
  | some (.inl _) => true
  | _ => false
theorem okc_ex {r : Option (Mem ⊕ Unit)} (h : okc r = true) : ∃ g9, r = some (.inl g9) := by
  match r, h with
  | some (.inl g), _ => exact ⟨g, rfl⟩
theorem T_ex {r : Option (Mem ⊕ Unit)} (h : T r (fun v => ∃ g9, v = .inl g9)) : ∃ g9, r = some (.inl g9) := by
  obtain ⟨v, e, g9, rfl⟩ := h
  exact ⟨g9, e⟩
theorem c_monks : G0 15 0 = 0 := by decide +kernel
theorem c_many : G0 23 4 = 0 := by decide +kernel
theorem m_told : (mset G0 54 3 0) 58 0 = 0 := by decide +kernel
theorem m_many : (mset G0 54 3 0) 54 26 = 0 := by decide +kernel
theorem cn_monk {g : Mem} (h : g 15 0 = 0) (p : Int32) : sp_Hall_needMonk p g = some (.inr 1) := by
  unfold sp_Hall_needMonk
  rw [h]
  by_cases c : p < 0
  · rw [if_pos c]
  · rw [if_neg c, if_neg c]
theorem cn_entry {g : Mem} (h : g 23 4 = 0) (p : Int32) : sp_Hall_needEntry p g = some (.inr 1) := by
  unfold sp_Hall_needEntry
  rw [h]
  by_cases c : p < 0
  · rw [if_pos c]
  · rw [if_neg c, if_neg c]
theorem mk_monk {g : Mem} (h : g 58 0 = 0) (p : Int32) : sp_Model_isMonk p g = some 0 := by
  have e : rd g 58 12 0 = some 0 := by rw [rd_lit 0 (by decide) rfl, h]
  unfold sp_Model_isMonk
  rw [e, Option.bind_some, isIn_v, if_neg (no_neg _)]
  rfl
theorem mk_entry {g : Mem} (h : g 54 26 = 0) (p : Int32) : sp_Model_isEntry p g = some 0 := by
  unfold sp_Model_isEntry
  rw [h, isIn_v, if_neg (no_neg _)]
  rfl
theorem isIn_out {p : Int32} {a b : Int64} {g : Mem} (a' b' : Int32) (ha : a'.toInt64 = a) (hb : b'.toInt64 = b) (h : p < a' ∨ b' < p) : sp_Model_isIn p.toInt64 a b g = some 0 := by
  subst ha; subst hb
  rw [isIn_v, if_neg]
  rintro ⟨h1, h2⟩
  rw [l64] at h1 h2
  rcases h with h | h
  · exact absurd h (Int32.not_lt.mpr h1)
  · exact absurd h (Int32.not_lt.mpr h2)
theorem isIn_in {p : Int32} {a b : Int64} {g : Mem} (a' b' : Int32) (ha : a'.toInt64 = a) (hb : b'.toInt64 = b) (h1 : ¬ p < a') (h2 : ¬ b' < p) : sp_Model_isIn p.toInt64 a b g = some 1 := by
  subst ha; subst hb
  rw [isIn_v, if_pos]
  rw [l64, l64]
  exact ⟨Int32.not_lt.mp h1, Int32.not_lt.mp h2⟩
theorem wi_out {p m : Int32} {g : Mem} (h : p < 0 ∨ m < p) : sp_Hall_isWithin p m g = some 0 := by
  unfold sp_Hall_isWithin
  by_cases c : p < 0
  · rw [if_pos c]
  · rw [if_neg c, if_pos (h.resolve_left c)]
theorem wi_in {p m : Int32} {g : Mem} (h1 : ¬ p < 0) (h2 : ¬ m < p) : sp_Hall_isWithin p m g = some 1 := by
  unfold sp_Hall_isWithin
  rw [if_neg h1, if_neg h2]
theorem fin_of {p : Int32} (m : Nat) (hm : m < 2 ^ 31) (h0 : ¬ p < 0) (h1 : ¬ nI m < p) : ∃ n, n ≤ m ∧ p = nI n := by
  obtain ⟨j, hj, rfl⟩ := nI_of h0
  exact ⟨j, Nat.not_lt.mp (fun q => h1 (nI_lt q hj)), rfl⟩
theorem inout (p m : Int32) : (¬ p < 0 ∧ ¬ m < p) ∨ (p < 0 ∨ m < p) := by
  by_cases c : p < 0
  · exact Or.inr (Or.inl c)
  · by_cases d : m < p
    · exact Or.inr (Or.inr d)
    · exact Or.inl ⟨c, d⟩
theorem rx1 (xs : Nat → Int32) : rx 6 xs (0 + 1) = some (xs 1) := rfl
theorem rx2 (xs : Nat → Int32) : rx 6 xs (0 + 2) = some (xs 2) := rfl
theorem rx3 (xs : Nat → Int32) : rx 6 xs (0 + 3) = some (xs 3) := rfl
theorem rx4 (xs : Nat → Int32) : rx 6 xs (0 + 4) = some (xs 4) := rfl
theorem rx5 (xs : Nat → Int32) : rx 6 xs (0 + 5) = some (xs 5) := rfl
theorem th_4 (p1 p2 : Int32) : sp_Law_monk 20000 p1 p2 G0 = some (1, G0) := by
  unfold sp_Law_monk sp_Hall_monk
  rw [cn_monk c_monks]
  rfl
theorem tm_4 (p1 p2 : Int32) : sp_Model_monk 20000 p1 p2 G0 = some (0, mset (mset G0 54 3 0) 54 3 1) := by
  unfold sp_Model_monk
  rw [mk_monk m_told]
  rfl
theorem ev_4 (xs : Nat → Int32) : ∃ g9, sp_case_4 20000 6 xs 0 G0 = some (.inl g9) := by
  unfold sp_case_4
  rw [rx1, rx2]
  simp only [Option.bind_some, th_4, tm_4]
  exact ⟨_, rfl⟩
theorem th_5 (p1 p2 : Int32) : sp_Law_entry p1 p2 G0 = some (1, G0) := by
  unfold sp_Law_entry sp_Hall_entry
  rw [cn_entry c_many]
  rfl
theorem tm_5 (p1 p2 : Int32) : sp_Model_entry p1 p2 G0 = some (0, mset (mset G0 54 3 0) 54 3 1) := by
  unfold sp_Model_entry
  rw [mk_entry m_many]
  rfl
theorem ev_5 (xs : Nat → Int32) : ∃ g9, sp_case_5 20000 6 xs 0 G0 = some (.inl g9) := by
  unfold sp_case_5
  rw [rx1, rx2]
  simp only [Option.bind_some, th_5, tm_5]
  exact ⟨_, rfl⟩
theorem th_6 (p1 : Int32) : sp_Law_holders 20000 p1 G0 = some (1, G0) := by
  unfold sp_Law_holders sp_Hall_holders
  rw [cn_entry c_many]
  rfl
theorem tm_6 (p1 : Int32) : sp_Model_holders 20000 p1 G0 = some (0, mset (mset G0 54 3 0) 54 3 1) := by
  unfold sp_Model_holders
  rw [mk_entry m_many]
  rfl
theorem ev_6 (xs : Nat → Int32) : ∃ g9, sp_case_6 20000 6 xs 0 G0 = some (.inl g9) := by
  unfold sp_case_6
  rw [rx1]
  simp only [Option.bind_some, th_6, tm_6]
  exact ⟨_, rfl⟩
theorem th_7 (p1 p2 : Int32) : sp_Law_may 20000 p1 p2 G0 = some (1, G0) := by
  unfold sp_Law_may sp_Hall_may
  rw [cn_monk c_monks]
  rfl
theorem tm_7 (p1 p2 : Int32) : sp_Model_may 20000 p1 p2 G0 = some (0, mset (mset G0 54 3 0) 54 3 1) := by
  unfold sp_Model_may
  rw [mk_monk m_told]
  rfl
theorem ev_7 (xs : Nat → Int32) : ∃ g9, sp_case_7 20000 6 xs 0 G0 = some (.inl g9) := by
  unfold sp_case_7
  rw [rx1, rx2]
  simp only [Option.bind_some, th_7, tm_7]
  exact ⟨_, rfl⟩
theorem th_9 (p1 p2 p3 p4 : Int32) : sp_Law_braid p1 p2 p3 p4 G0 = some (1, G0) := by
  unfold sp_Law_braid sp_Hall_braid
  rw [cn_monk c_monks]
  rfl
theorem tm_9 (p1 p2 p3 p4 : Int32) : sp_Model_braid 20000 p1 p2 p3 p4 G0 = some (0, mset (mset G0 54 3 0) 54 3 1) := by
  unfold sp_Model_braid
  rw [mk_monk m_told]
  rfl
theorem ev_9 (xs : Nat → Int32) : ∃ g9, sp_case_9 20000 6 xs 0 G0 = some (.inl g9) := by
  unfold sp_case_9
  rw [rx1, rx2, rx3, rx4]
  simp only [Option.bind_some, th_9, tm_9]
  exact ⟨_, rfl⟩
theorem th_10 (p1 p2 : Int32) : sp_Law_copy 20000 p1 p2 G0 = some (1, G0) := by
  unfold sp_Law_copy sp_Hall_copy
  rw [cn_entry c_many]
  rfl
theorem tm_10 (p1 p2 : Int32) : sp_Model_copy 20000 p1 p2 G0 = some (0, mset (mset G0 54 3 0) 54 3 1) := by
  unfold sp_Model_copy
  rw [mk_entry m_many]
  rfl
theorem ev_10 (xs : Nat → Int32) : ∃ g9, sp_case_10 20000 6 xs 0 G0 = some (.inl g9) := by
  unfold sp_case_10
  rw [rx1, rx2]
  simp only [Option.bind_some, th_10, tm_10]
  exact ⟨_, rfl⟩
theorem th_11 (p1 : Int32) : sp_Law_knot p1 G0 = some (1, G0) := by
  unfold sp_Law_knot sp_Hall_knot
  rw [cn_entry c_many]
  rfl
theorem tm_11 (p1 : Int32) : sp_Model_knot 20000 p1 G0 = some (0, mset (mset G0 54 3 0) 54 3 1) := by
  unfold sp_Model_knot sp_Model_isLoose
  rw [mk_entry m_many]
  rfl
theorem ev_11 (xs : Nat → Int32) : ∃ g9, sp_case_11 20000 6 xs 0 G0 = some (.inl g9) := by
  unfold sp_case_11
  rw [rx1]
  simp only [Option.bind_some, th_11, tm_11]
  exact ⟨_, rfl⟩
theorem th_12 (p1 : Int32) : sp_Law_comb p1 G0 = some (1, G0) := by
  unfold sp_Law_comb sp_Hall_comb
  rw [cn_entry c_many]
  rfl
theorem tm_12 (p1 : Int32) : sp_Model_comb 20000 p1 G0 = some (0, mset (mset G0 54 3 0) 54 3 1) := by
  unfold sp_Model_comb sp_Model_isLoose
  rw [mk_entry m_many]
  rfl
theorem ev_12 (xs : Nat → Int32) : ∃ g9, sp_case_12 20000 6 xs 0 G0 = some (.inl g9) := by
  unfold sp_case_12
  rw [rx1]
  simp only [Option.bind_some, th_12, tm_12]
  exact ⟨_, rfl⟩
theorem th_13 (p1 p2 : Int32) : sp_Law_shave 20000 p1 p2 G0 = some (1, G0) := by
  unfold sp_Law_shave sp_Hall_shave
  rw [cn_monk c_monks]
  rfl
theorem tm_13 (p1 p2 : Int32) : sp_Model_shave 20000 p1 p2 G0 = some (0, mset (mset G0 54 3 0) 54 3 1) := by
  unfold sp_Model_shave
  rw [mk_monk m_told]
  rfl
theorem ev_13 (xs : Nat → Int32) : ∃ g9, sp_case_13 20000 6 xs 0 G0 = some (.inl g9) := by
  unfold sp_case_13
  rw [rx1, rx2]
  simp only [Option.bind_some, th_13, tm_13]
  exact ⟨_, rfl⟩
theorem th_14 (p1 p2 p3 : Int32) : sp_Law_moths 20000 p1 p2 p3 G0 = some (1, G0) := by
  unfold sp_Law_moths sp_Hall_moths
  rw [cn_monk c_monks]
  rfl
theorem tm_14 (p1 p2 p3 : Int32) : sp_Model_moths 20000 p1 p2 p3 G0 = some (0, mset (mset G0 54 3 0) 54 3 1) := by
  unfold sp_Model_moths
  rw [mk_monk m_told]
  rfl
theorem ev_14 (xs : Nat → Int32) : ∃ g9, sp_case_14 20000 6 xs 0 G0 = some (.inl g9) := by
  unfold sp_case_14
  rw [rx1, rx2, rx3]
  simp only [Option.bind_some, th_14, tm_14]
  exact ⟨_, rfl⟩
theorem th_15 (p1 : Int32) : sp_Law_die p1 G0 = some (1, G0) := by
  unfold sp_Law_die sp_Hall_die
  rw [cn_monk c_monks]
  rfl
theorem tm_15 (p1 : Int32) : sp_Model_die 20000 p1 G0 = some (0, mset (mset G0 54 3 0) 54 3 1) := by
  unfold sp_Model_die
  rw [mk_monk m_told]
  rfl
theorem ev_15 (xs : Nat → Int32) : ∃ g9, sp_case_15 20000 6 xs 0 G0 = some (.inl g9) := by
  unfold sp_case_15
  rw [rx1]
  simp only [Option.bind_some, th_15, tm_15]
  exact ⟨_, rfl⟩
theorem th_23 (p1 : Int32) : sp_Law_shortest 20000 p1 G0 = some (1, G0) := by
  unfold sp_Law_shortest sp_Hall_shortest
  rw [cn_monk c_monks]
  rfl
theorem tm_23 (p1 : Int32) : sp_Model_shortest 20000 p1 G0 = some (0, mset (mset G0 54 3 0) 54 3 1) := by
  unfold sp_Model_shortest
  rw [mk_monk m_told]
  rfl
theorem ev_23 (xs : Nat → Int32) : ∃ g9, sp_case_23 20000 6 xs 0 G0 = some (.inl g9) := by
  unfold sp_case_23
  rw [rx1]
  simp only [Option.bind_some, th_23, tm_23]
  exact ⟨_, rfl⟩
theorem th_24 (p1 p2 p3 : Int32) : sp_Law_amnesty 20000 p1 p2 p3 G0 = some (1, G0) := by
  unfold sp_Law_amnesty sp_Hall_amnesty
  rw [cn_monk c_monks]
  rfl
theorem tm_24 (p1 p2 p3 : Int32) : sp_Model_amnesty 20000 p1 p2 p3 G0 = some (0, mset (mset G0 54 3 0) 54 3 1) := by
  unfold sp_Model_amnesty
  rw [mk_monk m_told]
  rfl
theorem ev_24 (xs : Nat → Int32) : ∃ g9, sp_case_24 20000 6 xs 0 G0 = some (.inl g9) := by
  unfold sp_case_24
  rw [rx1, rx2, rx3]
  simp only [Option.bind_some, th_24, tm_24]
  exact ⟨_, rfl⟩
theorem th_25 (p1 p2 : Int32) : sp_Law_week 20000 p1 p2 G0 = some (1, G0) := by
  unfold sp_Law_week sp_Hall_week
  rw [cn_monk c_monks]
  rfl
theorem tm_25 (p1 p2 : Int32) : sp_Model_week 20000 p1 p2 G0 = some (0, mset (mset G0 54 3 0) 54 3 1) := by
  unfold sp_Model_week
  rw [mk_monk m_told]
  rfl
theorem ev_25 (xs : Nat → Int32) : ∃ g9, sp_case_25 20000 6 xs 0 G0 = some (.inl g9) := by
  unfold sp_case_25
  rw [rx1, rx2]
  simp only [Option.bind_some, th_25, tm_25]
  exact ⟨_, rfl⟩
theorem th_28 (p1 : Int32) : sp_Law_until p1 G0 = some (1, G0) := by
  unfold sp_Law_until sp_Hall_until
  rw [cn_entry c_many]
  rfl
theorem tm_28 (p1 : Int32) : sp_Model_until p1 G0 = some (0, mset (mset G0 54 3 0) 54 3 1) := by
  unfold sp_Model_until
  rw [mk_entry m_many]
  rfl
theorem ev_28 (xs : Nat → Int32) : ∃ g9, sp_case_28 20000 6 xs 0 G0 = some (.inl g9) := by
  unfold sp_case_28
  rw [rx1]
  simp only [Option.bind_some, th_28, tm_28]
  exact ⟨_, rfl⟩
theorem th_31 (p1 : Int32) : sp_Law_heir 20000 p1 G0 = some (1, G0) := by
  unfold sp_Law_heir sp_Hall_heir
  rw [cn_monk c_monks]
  rfl
theorem tm_31 (p1 : Int32) : sp_Model_heir 20000 p1 G0 = some (0, mset (mset G0 54 3 0) 54 3 1) := by
  unfold sp_Model_heir
  rw [mk_monk m_told]
  rfl
theorem ev_31 (xs : Nat → Int32) : ∃ g9, sp_case_31 20000 6 xs 0 G0 = some (.inl g9) := by
  unfold sp_case_31
  rw [rx1]
  simp only [Option.bind_some, th_31, tm_31]
  exact ⟨_, rfl⟩
theorem th_32 (p1 : Int32) : sp_Law_lice 20000 p1 G0 = some (1, G0) := by
  unfold sp_Law_lice sp_Hall_lice
  rw [cn_monk c_monks]
  rfl
theorem tm_32 (p1 : Int32) : sp_Model_lice 20000 p1 G0 = some (0, mset (mset G0 54 3 0) 54 3 1) := by
  unfold sp_Model_lice
  rw [mk_monk m_told]
  rfl
theorem ev_32 (xs : Nat → Int32) : ∃ g9, sp_case_32 20000 6 xs 0 G0 = some (.inl g9) := by
  unfold sp_case_32
  rw [rx1]
  simp only [Option.bind_some, th_32, tm_32]
  exact ⟨_, rfl⟩
theorem th_34 (p1 p2 : Int32) : sp_Law_ate 20000 p1 p2 G0 = some (1, G0) := by
  unfold sp_Law_ate sp_Hall_ate
  rw [cn_monk c_monks]
  rfl
theorem tm_34 (p1 p2 : Int32) : sp_Model_ate 20000 p1 p2 G0 = some (0, mset (mset G0 54 3 0) 54 3 1) := by
  unfold sp_Model_ate
  rw [mk_monk m_told]
  rfl
theorem ev_34 (xs : Nat → Int32) : ∃ g9, sp_case_34 20000 6 xs 0 G0 = some (.inl g9) := by
  unfold sp_case_34
  rw [rx1, rx2]
  simp only [Option.bind_some, th_34, tm_34]
  exact ⟨_, rfl⟩
theorem th_33 (p1 p2 : Int32) : sp_Law_see p1 p2 G0 = some (1, G0) := by
  unfold sp_Law_see sp_Hall_see
  rw [cn_entry c_many]
  rfl
theorem tm_33 (p1 p2 : Int32) : sp_Model_see p1 p2 G0 = some (0, mset (mset G0 54 3 0) 54 3 1) := by
  unfold sp_Model_see
  rw [mk_entry m_many]
  rfl
theorem ev_33 (xs : Nat → Int32) : ∃ g9, sp_case_33 20000 6 xs 0 G0 = some (.inl g9) := by
  unfold sp_case_33
  rw [rx1, rx2]
  by_cases h : xs 2 = 0
  · simp only [Option.bind_some, h, th_33, tm_33, ↓reduceIte]
    exact ⟨_, rfl⟩
  · simp only [Option.bind_some, h, th_33, tm_33, ↓reduceIte]
    exact ⟨_, rfl⟩
theorem ev_2 (xs : Nat → Int32) : ∃ g9, sp_case_2 20000 6 xs 0 G0 = some (.inl g9) :=
  okc_ex (show okc (sp_case_2 20000 6 (fun _ => 0) 0 G0) = true by decide +kernel)
theorem ev_16 (xs : Nat → Int32) : ∃ g9, sp_case_16 20000 6 xs 0 G0 = some (.inl g9) :=
  okc_ex (show okc (sp_case_16 20000 6 (fun _ => 0) 0 G0) = true by decide +kernel)
theorem ev_18 (xs : Nat → Int32) : ∃ g9, sp_case_18 20000 6 xs 0 G0 = some (.inl g9) :=
  okc_ex (show okc (sp_case_18 20000 6 (fun _ => 0) 0 G0) = true by decide +kernel)
theorem ev_20 (xs : Nat → Int32) : ∃ g9, sp_case_20 20000 6 xs 0 G0 = some (.inl g9) :=
  okc_ex (show okc (sp_case_20 20000 6 (fun _ => 0) 0 G0) = true by decide +kernel)
theorem ev_21 (xs : Nat → Int32) : ∃ g9, sp_case_21 20000 6 xs 0 G0 = some (.inl g9) :=
  okc_ex (show okc (sp_case_21 20000 6 (fun _ => 0) 0 G0) = true by decide +kernel)
theorem ev_30 (xs : Nat → Int32) : ∃ g9, sp_case_30 20000 6 xs 0 G0 = some (.inl g9) :=
  okc_ex (show okc (sp_case_30 20000 6 (fun _ => 0) 0 G0) = true by decide +kernel)
theorem ev_35 (xs : Nat → Int32) : ∃ g9, sp_case_35 20000 6 xs 0 G0 = some (.inl g9) :=
  okc_ex (show okc (sp_case_35 20000 6 (fun _ => 0) 0 G0) = true by decide +kernel)
theorem ev_39 (xs : Nat → Int32) : ∃ g9, sp_case_39 20000 6 xs 0 G0 = some (.inl g9) :=
  okc_ex (show okc (sp_case_39 20000 6 (fun _ => 0) 0 G0) = true by decide +kernel)
theorem cg_17 {xs ys : Nat → Int32} (h1 : xs 1 = ys 1) : sp_case_17 20000 6 xs 0 G0 = sp_case_17 20000 6 ys 0 G0 := by
  unfold sp_case_17
  rw [rx1 xs, rx1 ys, h1]
theorem cl_17 : ∀ n, n ≤ 7 → okc (sp_case_17 20000 6 (fun _ => nI n) 0 G0) = true := by decide +kernel
theorem ev_17 (xs : Nat → Int32) : ∃ g9, sp_case_17 20000 6 xs 0 G0 = some (.inl g9) := by
  rcases inout (xs 1) 7 with ⟨h0, h1⟩ | h
  · obtain ⟨n, hn, e⟩ := fin_of 7 (by decide) h0 h1
    rw [cg_17 (ys := fun _ => nI n) e]
    exact okc_ex (cl_17 n hn)
  · have t1 : sp_Law_law 20000 (xs 1) G0 = some (1, G0) := by
      unfold sp_Law_law sp_Hall_law sp_Hall_needAbout sp_Hall_isAbout
      rw [wi_out h]
      rfl
    have t2 : sp_Model_law 20000 (xs 1) G0 = some (0, mset (mset G0 54 3 0) 54 3 1) := by
      unfold sp_Model_law sp_Model_isAbout
      rw [isIn_out 0 7 (by decide) (by decide) h]
      rfl
    unfold sp_case_17
    rw [rx1]
    simp only [Option.bind_some, t1, t2]
    exact ⟨_, rfl⟩
theorem cg_19 {xs ys : Nat → Int32} (h1 : xs 1 = ys 1) : sp_case_19 20000 6 xs 0 G0 = sp_case_19 20000 6 ys 0 G0 := by
  unfold sp_case_19
  rw [rx1 xs, rx1 ys, h1]
theorem cl_19 : ∀ n, n ≤ 7 → okc (sp_case_19 20000 6 (fun _ => nI n) 0 G0) = true := by decide +kernel
theorem ev_19 (xs : Nat → Int32) : ∃ g9, sp_case_19 20000 6 xs 0 G0 = some (.inl g9) := by
  rcases inout (xs 1) 7 with ⟨h0, h1⟩ | h
  · obtain ⟨n, hn, e⟩ := fin_of 7 (by decide) h0 h1
    rw [cg_19 (ys := fun _ => nI n) e]
    exact okc_ex (cl_19 n hn)
  · have t1 : sp_Law_owed 20000 (xs 1) G0 = some (1, G0) := by
      unfold sp_Law_owed sp_Hall_owed sp_Hall_needAbout sp_Hall_isAbout
      rw [wi_out h]
      rfl
    have t2 : sp_Model_owed 20000 (xs 1) G0 = some (0, mset (mset G0 54 3 0) 54 3 1) := by
      unfold sp_Model_owed sp_Model_isAbout
      rw [isIn_out 0 7 (by decide) (by decide) h]
      rfl
    unfold sp_case_19
    rw [rx1]
    simp only [Option.bind_some, t1, t2]
    exact ⟨_, rfl⟩
theorem cg_27 {xs ys : Nat → Int32} (h1 : xs 1 = ys 1) : sp_case_27 20000 6 xs 0 G0 = sp_case_27 20000 6 ys 0 G0 := by
  unfold sp_case_27
  rw [rx1 xs, rx1 ys, h1]
theorem cl_27 : ∀ n, n ≤ 7 → okc (sp_case_27 20000 6 (fun _ => nI n) 0 G0) = true := by decide +kernel
theorem ev_27 (xs : Nat → Int32) : ∃ g9, sp_case_27 20000 6 xs 0 G0 = some (.inl g9) := by
  rcases inout (xs 1) 7 with ⟨h0, h1⟩ | h
  · obtain ⟨n, hn, e⟩ := fin_of 7 (by decide) h0 h1
    rw [cg_27 (ys := fun _ => nI n) e]
    exact okc_ex (cl_27 n hn)
  · have t1 : sp_Law_believed 20000 (xs 1) G0 = some (1, G0) := by
      unfold sp_Law_believed sp_Hall_believed sp_Hall_needAbout sp_Hall_isAbout
      rw [wi_out h]
      rfl
    have t2 : sp_Model_believed 20000 (xs 1) G0 = some (0, mset (mset G0 54 3 0) 54 3 1) := by
      unfold sp_Model_believed sp_Model_isAbout
      rw [isIn_out 0 7 (by decide) (by decide) h]
      rfl
    unfold sp_case_27
    rw [rx1]
    simp only [Option.bind_some, t1, t2]
    exact ⟨_, rfl⟩
theorem cg_26 {xs ys : Nat → Int32} (h1 : xs 1 = ys 1) (h2 : xs 2 = ys 2) : sp_case_26 20000 6 xs 0 G0 = sp_case_26 20000 6 ys 0 G0 := by
  unfold sp_case_26
  rw [rx1 xs, rx2 xs, rx1 ys, rx2 ys, h1, h2]
theorem cl_26 : ∀ a, a ≤ 3 → ∀ b, b ≤ 7 → okc (sp_case_26 20000 6 (fun k => if k = 1 then nI a else nI b) 0 G0) = true := by decide +kernel
theorem ev_26 (xs : Nat → Int32) : ∃ g9, sp_case_26 20000 6 xs 0 G0 = some (.inl g9) := by
  rcases inout (xs 2) 7 with ⟨h0, h1⟩ | h
  · rcases inout (xs 1) 3 with ⟨h2, h3⟩ | h
    · obtain ⟨b, hb, e2⟩ := fin_of 7 (by decide) h0 h1
      obtain ⟨a, ha, e1⟩ := fin_of 3 (by decide) h2 h3
      rw [cg_26 (ys := fun k => if k = 1 then nI a else nI b) e1 e2]
      exact okc_ex (cl_26 a ha b hb)
    · have t1 : sp_Law_oldest 20000 (xs 1) (xs 2) G0 = some (1, G0) := by
        unfold sp_Law_oldest sp_Hall_oldest sp_Hall_needAbout sp_Hall_isAbout sp_Hall_isKind
        rw [wi_in h0 h1, wi_out h]
        rfl
      have t2 : sp_Model_oldest 20000 (xs 1) (xs 2) G0 = some (0, mset (mset G0 54 3 0) 54 3 1) := by
        unfold sp_Model_oldest
        rw [isIn_out 0 3 (by decide) (by decide) h]
        rfl
      unfold sp_case_26
      rw [rx1, rx2]
      simp only [Option.bind_some, t1, t2]
      exact ⟨_, rfl⟩
  · have t1 : sp_Law_oldest 20000 (xs 1) (xs 2) G0 = some (1, G0) := by
      unfold sp_Law_oldest sp_Hall_oldest sp_Hall_needAbout sp_Hall_isAbout
      rw [wi_out h]
      rfl
    have t2 : sp_Model_oldest 20000 (xs 1) (xs 2) G0 = some (0, mset (mset G0 54 3 0) 54 3 1) := by
      unfold sp_Model_oldest sp_Model_isAbout
      rcases inout (xs 1) 3 with ⟨h2, h3⟩ | h9
      · rw [isIn_in 0 3 (by decide) (by decide) h2 h3, isIn_out 0 7 (by decide) (by decide) h]
        rfl
      · rw [isIn_out 0 3 (by decide) (by decide) h9]
        rfl
    unfold sp_case_26
    rw [rx1, rx2]
    simp only [Option.bind_some, t1, t2]
    exact ⟨_, rfl⟩
theorem cg_22 {xs ys : Nat → Int32} (h1 : xs 1 = ys 1) : sp_case_22 20000 6 xs 0 G0 = sp_case_22 20000 6 ys 0 G0 := by
  unfold sp_case_22
  rw [rx1 xs, rx1 ys, h1]
theorem cl_22 : ∀ n, n ≤ 6 → okc (sp_case_22 20000 6 (fun _ => nI n) 0 G0) = true := by decide +kernel
theorem ev_22 (xs : Nat → Int32) : ∃ g9, sp_case_22 20000 6 xs 0 G0 = some (.inl g9) := by
  rcases inout (xs 1) 6 with ⟨h0, h1⟩ | h
  · obtain ⟨n, hn, e⟩ := fin_of 6 (by decide) h0 h1
    rw [cg_22 (ys := fun _ => nI n) e]
    exact okc_ex (cl_22 n hn)
  · have t1 : sp_Law_barbers 20000 (xs 1) G0 = some (1, G0) := by
      unfold sp_Law_barbers sp_Hall_barbers
      rw [wi_out h]
      rfl
    have t2 : sp_Model_barbers 20000 (xs 1) G0 = some (0, mset (mset G0 54 3 0) 54 3 1) := by
      unfold sp_Model_barbers
      rw [isIn_out 0 6 (by decide) (by decide) h]
      rfl
    unfold sp_case_22
    rw [rx1]
    simp only [Option.bind_some, t1, t2]
    exact ⟨_, rfl⟩
theorem cg_36 {xs ys : Nat → Int32} (h1 : xs 1 = ys 1) : sp_case_36 20000 6 xs 0 G0 = sp_case_36 20000 6 ys 0 G0 := by
  unfold sp_case_36
  rw [rx1 xs, rx1 ys, h1]
theorem cl_36 : ∀ n, n ≤ 1 → okc (sp_case_36 20000 6 (fun _ => nI n) 0 G0) = true := by decide +kernel
theorem ev_36 (xs : Nat → Int32) : ∃ g9, sp_case_36 20000 6 xs 0 G0 = some (.inl g9) := by
  rcases inout (xs 1) 1 with ⟨h0, h1⟩ | h
  · obtain ⟨n, hn, e⟩ := fin_of 1 (by decide) h0 h1
    rw [cg_36 (ys := fun _ => nI n) e]
    exact okc_ex (cl_36 n hn)
  · have t1 : sp_Law_game 20000 (xs 1) G0 = some (1, G0) := by
      unfold sp_Law_game sp_Hall_game sp_Hall_needOneOf
      rw [wi_out h]
      rfl
    have t2 : sp_Model_game 20000 (xs 1) G0 = some (0, mset (mset G0 54 3 0) 54 3 1) := by
      unfold sp_Model_game
      rcases h with h | h
      · rw [if_pos h]; rfl
      · by_cases c9 : xs 1 < 0
        · rw [if_pos c9]; rfl
        · rw [if_neg c9, if_neg (Int32.not_le.mpr h)]; rfl
    unfold sp_case_36
    rw [rx1]
    simp only [Option.bind_some, t1, t2]
    exact ⟨_, rfl⟩
theorem cg_3 {xs ys : Nat → Int32} (h1 : xs 1 = ys 1) : sp_case_3 20000 6 xs 0 G0 = sp_case_3 20000 6 ys 0 G0 := by
  unfold sp_case_3
  rw [rx1 xs, rx1 ys, h1]
theorem cl_3 : ∀ n, n ≤ 14 → okc (sp_case_3 20000 6 (fun _ => nI n) 0 G0) = true := by decide +kernel
theorem ev_3 (xs : Nat → Int32) : ∃ g9, sp_case_3 20000 6 xs 0 G0 = some (.inl g9) := by
  rcases inout (xs 1) 14 with ⟨h0, h1⟩ | h
  · obtain ⟨n, hn, e⟩ := fin_of 14 (by decide) h0 h1
    rw [cg_3 (ys := fun _ => nI n) e]
    exact okc_ex (cl_3 n hn)
  · have hk : ∀ k : Nat, k ≤ 14 → ¬ xs 1 = nI k := by
      intro k hk e
      rw [e] at h
      rcases h with h | h
      · exact nI_pos (by omega) h
      · exact nI_nlt (show k ≤ 14 from hk) (by decide) h
    have k0 : ¬ xs 1 = 0 := hk 0 (by decide)
    have k1 : ¬ xs 1 = 1 := hk 1 (by decide)
    have k2 : ¬ xs 1 = 2 := hk 2 (by decide)
    have k3 : ¬ xs 1 = 3 := hk 3 (by decide)
    have k4 : ¬ xs 1 = 4 := hk 4 (by decide)
    have k5 : ¬ xs 1 = 5 := hk 5 (by decide)
    have k6 : ¬ xs 1 = 6 := hk 6 (by decide)
    have k7 : ¬ xs 1 = 7 := hk 7 (by decide)
    have k8 : ¬ xs 1 = 8 := hk 8 (by decide)
    have k9 : ¬ xs 1 = 9 := hk 9 (by decide)
    have k10 : ¬ xs 1 = 10 := hk 10 (by decide)
    have k11 : ¬ xs 1 = 11 := hk 11 (by decide)
    have k12 : ¬ xs 1 = 12 := hk 12 (by decide)
    have k13 : ¬ xs 1 = 13 := hk 13 (by decide)
    have k14 : ¬ xs 1 = 14 := hk 14 (by decide)
    have t1 : sp_Law_count 20000 (xs 1) G0 = some (1, G0) := by
      unfold sp_Law_count sp_Hall_count
      simp only [k0, k1, k2, k3, k4, k5, k6, k7, k8, k9, k10, k11, k12, k13, k14, ↓reduceIte]
      rfl
    have t2 : sp_Model_count 20000 (xs 1) G0 = some (0, mset (mset G0 54 3 0) 54 3 1) := by
      unfold sp_Model_count
      simp only [k0, k1, k2, k3, k4, k5, k6, k7, k8, k9, k10, k11, k12, k13, k14, ↓reduceIte]
      rfl
    unfold sp_case_3
    rw [rx1]
    simp only [Option.bind_some, t1, t2]
    exact ⟨_, rfl⟩
theorem c_tape : G0 0 1 = 0 := by decide +kernel
theorem m_tape : (mset G0 54 3 0) 54 12 = 0 := by decide +kernel
theorem cl_1 : okc (sp_case_1 20000 6 (fun _ => 0) 0 G0) = true := by decide +kernel
theorem cg_1 {xs ys : Nat → Int32} (h1 : xs 1 = ys 1) : sp_case_1 20000 6 xs 0 G0 = sp_case_1 20000 6 ys 0 G0 := by
  unfold sp_case_1
  rw [rx1 xs, rx1 ys, h1]
theorem ev_1 (xs : Nat → Int32) : ∃ g9, sp_case_1 20000 6 xs 0 G0 = some (.inl g9) := by
  by_cases h0 : xs 1 = 0
  · rw [cg_1 (ys := fun _ => 0) h0]
    exact okc_ex cl_1
  · have h : xs 1 < 0 ∨ ¬ xs 1 < 0 ∧ ¬ xs 1 ≤ 0 := by
      by_cases c : xs 1 < 0
      · exact Or.inl c
      · exact Or.inr ⟨c, fun q => h0 (Int32.le_antisymm q (Int32.not_lt.mp c))⟩
    have t1 : sp_Law_archive 20000 (xs 1) G0 = some (1, G0) := by
      unfold sp_Law_archive sp_Hall_archive
      rw [c_tape]
      rcases h with h | ⟨h1, h2⟩
      · rw [if_pos h]; rfl
      · rw [if_neg h1, if_neg h2]; rfl
    have t2 : sp_Model_archive 20000 (xs 1) G0 = some (0, mset (mset G0 54 3 0) 54 3 1) := by
      unfold sp_Model_archive
      rw [m_tape]
      rcases h with h | ⟨h1, h2⟩
      · rw [if_pos h]; rfl
      · rw [if_neg h1, if_neg h2]; rfl
    unfold sp_case_1
    rw [rx1]
    simp only [Option.bind_some, t1, t2]
    exact ⟨_, rfl⟩
theorem T.rmB {β : Type} {Q : β → Prop} {x y : Int32} {f : Int32 → Option β} (h : ¬ y = 0) (k : T (f (x - x / y * y)) Q) : T ((rm x y).bind f) Q := by
  unfold rm
  rw [if_neg h]
  exact k
theorem pb1 : ∀ i, i < 4 → ¬ (24 : Int32) - 8 * nI i < 0 := by decide +kernel
theorem pb2 : ∀ i, i < 4 → (24 : Int32) - 8 * nI i + (-8) = 24 - 8 * nI (i + 1) := by decide +kernel
theorem t_putBytes {F t : Nat} {p : Int32} {g : Mem} (hF : 4 < F) (h : g 0 1 = nI t) (ht : t + 4 ≤ 700) : T (sp_Hall_putBytes F p g) (fun g' => g' 0 1 = nI (t + 4) ∧ Off (fun k => k < 54) g g') := by
  unfold sp_Hall_putBytes
  refine T.callB (P := fun g' => g' 0 1 = nI (t + 4) ∧ Off (fun k => k < 54) g g') ?_ (fun v hv => T.some' hv)
  refine T.cnt 4 (fun i s => s.1 = 24 - 8 * nI i ∧ s.2 0 1 = nI (t + i) ∧ Off (fun k => k < 54) g s.2) ?_ ?_ 4 0 _ F (by omega) ⟨(by decide : (24 : Int32) = 24 - 8 * nI 0), h, Off.rf⟩ hF
  · rintro i ⟨a, m⟩ hi ⟨rfl, hm, hO⟩
    unfold st_Hall_putBytes_3
    refine T.neg (pb1 i hi) ?_
    dsimp only at hm ⊢
    refine T.neg (by rw [hm]; exact nI_ge (show t + i < 700 by omega) (by decide)) ?_
    refine T.wrB (by rw [hm]; exact inb_nI (by omega) (by decide)) (T.some' (Or.inl ⟨_, rfl, pb2 i hi, ?_, (hO.ms (by decide)).ms (by decide)⟩))
    dsimp only
    rw [mset_get, if_pos ⟨rfl, rfl⟩, mset_row _ _ _ _ (by decide), hm]
    exact nI_1 (t + i)
  · rintro ⟨a, m⟩ ⟨rfl, hm, hO⟩
    unfold st_Hall_putBytes_3
    exact T.pos (show (24 : Int32) - 8 * nI 4 < 0 by decide) (T.some' ⟨_, rfl, hm, hO⟩)
theorem t_hfeed {F : Nat} {a b c d e : Int32} {g : Mem} (hF : 4 < F) (h : g 0 1 = 0) : T (sp_Hall_feed F a b c d e g) (fun v => v.1 = nI 20 ∧ Off (fun k => k < 54) g v.2) := by
  unfold sp_Hall_feed
  refine T.pos (by rw [h]; decide) ?_
  refine T.callB (t_putBytes (t := 0) hF h (by decide)) (fun v1 h1 => ?_)
  refine T.callB (t_putBytes (t := 4) hF h1.1 (by decide)) (fun v2 h2 => ?_)
  refine T.callB (t_putBytes (t := 8) hF h2.1 (by decide)) (fun v3 h3 => ?_)
  refine T.callB (t_putBytes (t := 12) hF h3.1 (by decide)) (fun v4 h4 => ?_)
  refine T.callB (t_putBytes (t := 16) hF h4.1 (by decide)) (fun v5 h5 => ?_)
  exact T.some' ⟨h5.1, (((h1.2.tr h2.2).tr h3.2).tr h4.2).tr h5.2⟩
theorem t_mfeed {F : Nat} {a b c d e : Int32} {g : Mem} (hF : 20 < F) (h : g 54 12 = 0) : T (sp_Model_feed F a b c d e g) (fun v => v.1 = nI 20) := by
  unfold sp_Model_feed
  have h' : (mset g 54 3 0) 54 12 = 0 := by rw [mset_get, if_neg (by decide), h]
  refine T.pos (by rw [h']; decide) ?_
  refine T.callB (P := fun g' : Mem => g' 54 12 = nI 20) ?_ (fun v hv => T.some' hv)
  refine T.cnt 20 (fun i s => s.1 = nI i ∧ s.2 54 12 = nI i) ?_ ?_ 20 0 _ F (by omega) ⟨rfl, h'⟩ hF
  · rintro i ⟨k, m⟩ hi ⟨rfl, hm⟩
    have key : ∀ y : Int32, T (sp_Model_feed_j76_23 F a b c d e a b c d e g m (nI i) y) (fun r => (∃ s' : Int32 × Mem, r = .inl s' ∧ s'.1 = nI (i + 1) ∧ s'.2 54 12 = nI (i + 1)) ∨ ∃ x : Mem, r = .inr x ∧ x 54 12 = nI 20) := by
      intro y
      unfold sp_Model_feed_j76_23
      refine T.rmB (by decide) ?_
      dsimp only at hm ⊢
      refine T.wrB (by rw [hm]; exact inb_nI (by omega) (by decide)) (T.some' (Or.inl ⟨_, rfl, nI_1 i, ?_⟩))
      dsimp only
      rw [mset_get, if_pos ⟨rfl, rfl⟩, mset_row _ _ _ _ (by decide), hm]
      exact nI_1 i
    unfold st_Model_feed_23
    refine T.neg (nI_ge hi (by decide)) ?_
    refine T.cond (fun _ => ?_) (fun _ => key _)
    refine T.cond (fun _ => ?_) (fun _ => key _)
    refine T.cond (fun _ => ?_) (fun _ => key _)
    exact T.cond (fun _ => key _) (fun _ => key _)
  · rintro ⟨k, m⟩ ⟨rfl, hm⟩
    unfold st_Model_feed_23
    exact T.pos (show (20 : Int32) ≤ nI 20 by decide) (T.some' ⟨_, rfl, hm⟩)
theorem ev_0 (xs : Nat → Int32) : ∃ g9, sp_case_0 20000 6 xs 0 G0 = some (.inl g9) := by
  apply T_ex
  unfold sp_case_0
  rw [rx1, rx2, rx3, rx4, rx5]
  simp only [Option.bind_some]
  refine T.callB (t_hfeed (by decide) c_tape) (fun v hv => ?_)
  refine T.callB (t_mfeed (by decide) ?_) (fun w hw => ?_)
  · rw [hv.2 54 (by decide)]
    decide +kernel
  · exact T.pos (by rw [hv.1, hw]) (T.some' ⟨_, rfl⟩)
def MZ (g : Mem) : Prop := g 58 0 = 0 ∧ g 54 26 = 0
theorem MZ.records {F : Nat} {g : Mem} (h : MZ g) (hF : 0 < F) : sp_Model_records F g = some 0 := by
  unfold sp_Model_records
  rw [lp_out (x := 0) ?_ hF]
  · rfl
  · unfold st_Model_records_4
    dsimp only
    exact if_pos (by rw [h.2]; decide)
theorem MZ.loseFar {F : Nat} {g : Mem} (h : MZ g) (hF : 0 < F) : sp_Model_loseFar F g = some (0, g) := by
  unfold sp_Model_loseFar
  rw [lp_out (x := (0, g)) ?_ hF]
  · rfl
  · unfold st_Model_loseFar_4
    dsimp only
    exact if_pos (by rw [h.2]; decide)
theorem MZ.bits {F : Nat} {g : Mem} (hF : 0 < F) : sp_Model_bitsOf F 0 g = some 0 := by
  unfold sp_Model_bitsOf
  rw [lp_out (x := 0) ?_ hF]
  · rfl
  · rfl
theorem MZ.owed {F : Nat} {g : Mem} (h : MZ g) (hF : 0 < F) : sp_Model_owedNow F (-1) g = some 0 := by
  unfold sp_Model_owedNow
  rw [lp_out (x := 0) ?_ hF]
  · rfl
  · unfold st_Model_owedNow_7
    dsimp only
    exact if_pos (by rw [h.2]; decide)
theorem MZ.year {F : Nat} {g : Mem} (h : MZ g) (hF : 0 < F) : sp_Model_yearGoes F g = some (mset g 54 24 (g 54 24 + 1)) := by
  have h2 : MZ (mset g 54 24 (g 54 24 + 1)) := ⟨by rw [mset_row _ _ _ _ (by decide)]; exact h.1, by rw [mset_get, if_neg (by decide)]; exact h.2⟩
  unfold sp_Model_yearGoes
  rw [lp_out (x := mset g 54 24 (g 54 24 + 1)) ?_ hF, Option.bind_some, h2.loseFar hF]
  · rfl
  · unfold st_Model_yearGoes_12
    dsimp only
    rw [rd_lit 0 (by decide) rfl, h2.1]
    rfl
theorem MZ.off {R : Nat → Prop} {g g' : Mem} (h : MZ g) (hO : Off R g g') (h1 : ¬ R 58) (h2 : ¬ R 54) : MZ g' := ⟨by rw [hO 58 h1]; exact h.1, by rw [hO 54 h2]; exact h.2⟩
theorem m_z : MZ (mset G0 54 3 0) := ⟨m_told, m_many⟩
theorem MZ.set {g : Mem} {j : Nat} {x : Int32} (h : MZ g) (hj : 26 ≠ j) : MZ (mset g 54 j x) := ⟨by rw [mset_row _ _ _ _ (by decide)]; exact h.1, by rw [mset_get, if_neg (fun q => hj q.2)]; exact h.2⟩
theorem MZ.setYear {g : Mem} {x : Int32} (h : MZ g) : MZ (mset g 54 24 x) := h.set (by decide)
/-- the class, on nothing -/
theorem c_recs {F ha : Nat} {g : Mem} (h : g ha 4 = 0) (hF : 0 < F) (p : Int32) : sp_Hair_recordsOf F ha 15 p g = some 0 := by
  unfold sp_Hair_recordsOf
  rw [lp_out (x := 0) ?_ hF]
  · rfl
  · unfold st_Hair_recordsOf_4
    dsimp only
    exact if_pos (by rw [h]; decide)
theorem c_recsT {F ha : Nat} {g : Mem} (h : g ha 4 = 0) (hF : 0 < F) : sp_Hair_recordsThere F ha 15 g = some 0 := by
  unfold sp_Hair_recordsThere sp_Hair_allThere
  rw [Option.bind_some, c_recs h hF]
  rfl
theorem c_pass {F ha : Nat} {g : Mem} {p : Int32} (h : g 15 0 = 0) (hne : 15 ≠ ha) (hF : 0 < F) : sp_Hair_pass F ha 15 p g = some (mset g ha 3 (g ha 3 + p)) := by
  unfold sp_Hair_pass
  rw [lp_out (x := mset g ha 3 (g ha 3 + p)) ?_ hF]
  · rfl
  · unfold st_Hair_pass_12
    dsimp only
    exact if_pos (by rw [mset_row _ _ _ _ hne, h]; decide)
theorem c_lost {F : Nat} {g : Mem} {p : Int32} (h : g 23 4 = 0) (hF : 0 < F) : sp_Keeping_lostWithin F p g = some 0 := by
  unfold sp_Keeping_lostWithin
  rw [lp_out (x := 0) ?_ hF, Option.bind_some]
  · unfold sp_Hair_recordsLostBy sp_Hair_allThere
    rw [Option.bind_some, c_recs h hF, Option.bind_some, c_recs h hF]
    rfl
  · unfold st_Keeping_lostWithin_4
    dsimp only
    exact if_pos (by rw [h]; decide)
theorem c_bal {F : Nat} {g : Mem} {p : Int32} (h : g 50 4 = 0) (hF : 0 < F) : sp_Laws_balance F 53 50 15 p g = some 0 := by
  unfold sp_Laws_balance
  rw [c_recsT h hF, Option.bind_some, lp_out (x := 0) ?_ hF]
  · rfl
  · unfold st_Laws_balance_13
    dsimp only
    exact if_pos (by rw [h]; decide)
theorem t_mdoomed {F n : Nat} {g : Mem} (h : MZ (mset g 54 3 0)) (hF : 300 < F) (hn : n ≤ 60) : T (sp_Model_doomed F (nI n) g) (fun v => v.1 = 0 ∧ v.2 54 3 = 0 ∧ v.2 78 = g 78) := by
  unfold sp_Model_doomed
  refine T.eqB (isIn_in 0 60 (by decide) (by decide) (nI_pos (by omega)) (nI_nlt (show n ≤ 60 from hn) (by decide))) ?_
  refine T.neg (by decide) ?_
  refine T.eqB (h.records (by omega)) ?_
  refine T.callB (t_pack (a := 0) (by omega) (by decide) (by decide)) (fun v hv => ?_)
  refine T.callB (P := fun g' : Mem => MZ g' ∧ g' 54 3 = 0 ∧ g' 78 = g 78) ?_ (fun w hw => ?_)
  · refine T.cnt n (fun i s => s.1 = nI i ∧ MZ s.2 ∧ s.2 54 3 = 0 ∧ s.2 78 = g 78) ?_ ?_ n 0 _ F (by omega) ⟨rfl, h.off hv (by decide) (by decide), (show v 54 3 = 0 by rw [hv 54 (by decide), mset_get, if_pos ⟨rfl, rfl⟩]), (show v 78 = g 78 by rw [hv 78 (by decide), mset_rowF _ _ _ (by decide)])⟩ (by omega)
    · rintro i ⟨b, m⟩ hi ⟨rfl, hm, h3, h78⟩
      unfold st_Model_doomed_39
      refine T.neg (nI_ge hi (by omega)) ?_
      refine T.eqB (hm.year (by omega)) (T.some' (Or.inl ⟨_, rfl, nI_1 i, hm.setYear, ?_, ?_⟩))
      · show (mset m 54 24 (m 54 24 + 1)) 54 3 = 0
        rw [mset_get, if_neg (by decide)]; exact h3
      · show (mset m 54 24 (m 54 24 + 1)) 78 = g 78
        rw [mset_rowF _ _ _ (by decide)]; exact h78
    · rintro ⟨b, m⟩ ⟨rfl, hm⟩
      unfold st_Model_doomed_39
      exact T.pos (nI_le (Nat.le_refl _) (by omega)) (T.some' ⟨_, rfl, hm⟩)
  · refine T.eqB (hw.1.records (by omega)) ?_
    refine T.callB (t_unpack (a := 0) (by omega) (by decide) (by decide)) (fun u hu => ?_)
    refine T.eqB (MZ.bits (by omega)) (T.some' ⟨rfl, ?_, ?_⟩)
    · show u 54 3 = 0
      rw [hu.2 3 (by decide) (by decide) (by decide)]; exact hw.2.1
    · show u 78 = g 78
      rw [hu.1 78 (by unfold RU; decide)]; exact hw.2.2
theorem ev_29 (xs : Nat → Int32) : ∃ g9, sp_case_29 20000 6 xs 0 G0 = some (.inl g9) := by
  rcases inout (xs 1) 60 with ⟨h0, h1⟩ | h
  · obtain ⟨n, hn, e⟩ := fin_of 60 (by decide) h0 h1
    have t1 : sp_Law_doomed 20000 (xs 1) G0 = some (0, mset G0 78 0 0) := by
      unfold sp_Law_doomed sp_Hall_doomed
      rw [wi_in h0 h1, c_lost c_many (by decide)]
      rfl
    apply T_ex
    unfold sp_case_29
    rw [rx1]
    simp only [Option.bind_some, t1]
    rw [e]
    refine T.callB (t_mdoomed ⟨by decide +kernel, by decide +kernel⟩ (by decide) hn) (fun v hv => ?_)
    refine T.eqB (show sp_Model_thrown v.2 = some 0 by unfold sp_Model_thrown; rw [hv.2.1]) ?_
    refine T.pos rfl (T.pos (by first | exact rfl | trivial) (T.rdB (by decide) (T.pos ?_ (T.some' ⟨_, rfl⟩))))
    show lg_cmp (v.2 78 0).toInt64 v.1.toInt64 = 0
    rw [hv.2.2, hv.1]
    rfl
  · have t1 : sp_Law_doomed 20000 (xs 1) G0 = some (1, G0) := by
      unfold sp_Law_doomed sp_Hall_doomed
      rw [wi_out h]
      rfl
    have t2 : sp_Model_doomed 20000 (xs 1) G0 = some (0, mset (mset G0 54 3 0) 54 3 1) := by
      unfold sp_Model_doomed
      rw [isIn_out 0 60 (by decide) (by decide) h]
      rfl
    unfold sp_case_29
    rw [rx1]
    simp only [Option.bind_some, t1, t2]
    exact ⟨_, rfl⟩
theorem t_take {ha ro oa o : Nat} {g : Mem} (hne : oa ≠ ha) : T (sp_Hair_take ha ro oa o g) (fun g' => g' ha 4 = g oa 4 ∧ Off (fun k => k = ha ∨ k = ha + 1 ∨ k = ha + 2) g g') := by
  unfold sp_Hair_take
  refine T.cyB (by decide) (T.cyB (by decide) (T.some' ⟨?_, ?_⟩))
  · rw [mrow_other _ _ (show ha ≠ ha + 2 by omega), mrow_other _ _ (show ha ≠ ha + 1 by omega)]
    simp [mset_get, hne]
  · exact (((((Off.rf.ms (Or.inl rfl)).ms (Or.inl rfl)).ms (Or.inl rfl)).ms (Or.inl rfl)).mr (Or.inr (Or.inl rfl))).mr (Or.inr (Or.inr rfl))
theorem t_srun {F n : Nat} {seed : Int32} (hF : 100 < F) (hn : n ≤ 40) : T (sp_Season_run F 23 15 seed (nI n) G0) (fun m => m 50 4 = 0 ∧ m 15 0 = 0 ∧ m 49 3 = 0 ∧ Off (fun k => k < 54) G0 m) := by
  unfold sp_Season_run
  refine T.callB (t_take (by decide)) (fun v hv => ?_)
  refine T.callB (P := fun m : Mem => m 50 4 = 0 ∧ m 15 0 = 0 ∧ m 49 3 = 0 ∧ Off (fun k => k < 54) G0 m) ?_ (fun v hv => T.some' hv)
  refine T.cnt n (fun i s => s.1 = nI i ∧ s.2 50 4 = 0 ∧ s.2 15 0 = 0 ∧ s.2 49 3 = 0 ∧ Off (fun k => k < 54) G0 s.2) ?_ ?_ n 0 _ F (by omega) ⟨rfl, ?_, ?_, ?_, ?_⟩ (by omega)
  · rintro i ⟨b, m⟩ hi ⟨rfl, h4, h15, h49, hO⟩
    dsimp only at h4 h15 h49 hO
    unfold st_Season_run_21
    refine T.neg (nI_ge hi (by omega)) ?_
    refine T.eqB (c_recsT h4 (by omega)) ?_
    refine T.pos (by dsimp only; rw [h15]; decide) ?_
    unfold sp_Season_run_j67_21
    refine T.eqB (c_pass h15 (by decide) (by omega)) ?_
    have h4' : (mset m 50 3 (m 50 3 + 1)) 50 4 = 0 := by rw [mset_get, if_neg (by decide), h4]
    refine T.eqB (c_recsT h4' (by omega)) (T.pos rfl (T.some' (Or.inl ⟨_, rfl, nI_1 i, h4', ?_, ?_, hO.ms (by decide)⟩)))
    · show (mset m 50 3 (m 50 3 + 1)) 15 0 = 0
      rw [mset_row _ _ _ _ (by decide), h15]
    · show (mset m 50 3 (m 50 3 + 1)) 49 3 = 0
      rw [mset_row _ _ _ _ (by decide), h49]
  · rintro ⟨b, m⟩ ⟨rfl, hm⟩
    unfold st_Season_run_21
    exact T.pos (nI_le (Nat.le_refl _) (by omega)) (T.some' ⟨_, rfl, hm⟩)
  · show (mset (mset v 49 2 seed) 49 3 0) 50 4 = 0
    rw [mset_row _ _ _ _ (by decide), mset_row _ _ _ _ (by decide), hv.1]
    exact c_many
  · show (mset (mset v 49 2 seed) 49 3 0) 15 0 = 0
    rw [mset_row _ _ _ _ (by decide), mset_row _ _ _ _ (by decide), hv.2 15 (by decide)]
    exact c_monks
  · show (mset (mset v 49 2 seed) 49 3 0) 49 3 = 0
    rw [mset_get, if_pos ⟨rfl, rfl⟩]
  · exact ((hv.2.sub (fun k hk => by rcases hk with rfl | rfl | rfl <;> decide)).ms (by decide)).ms (by decide)
theorem t_hseason {F n w : Nat} {seed : Int32} (hF : 100 < F) (hn : n ≤ 40) (hw : w ≤ 2) : T (sp_Hall_season F seed (nI n) (nI w) G0) (fun r => ∃ m, r = .inl (0, m) ∧ Off (fun k => k < 54) G0 m) := by
  unfold sp_Hall_season sp_Hall_needOneOf
  rw [wi_in (p := nI w) (m := 2) (nI_pos (by omega)) (nI_nlt (show w ≤ 2 from hw) (by decide)), wi_in (p := nI n) (m := 40) (nI_pos (by omega)) (nI_nlt (show n ≤ 40 from hn) (by decide))]
  show T ((sp_Season_run F 23 15 seed (nI n) G0).bind _) _
  refine T.callB (t_srun hF hn) (fun v hv => ?_)
  refine T.cond (fun _ => ?_) (fun _ => T.cond (fun _ => ?_) (fun _ => ?_))
  · refine T.eqB (c_recsT hv.1 (by omega)) ?_
    exact ⟨_, rfl, v, rfl, hv.2.2.2⟩
  · refine T.eqB (c_bal hv.1 (by omega)) (T.some' ⟨v, rfl, hv.2.2.2⟩)
  · exact T.some' ⟨v, by rw [hv.2.2.1], hv.2.2.2⟩
theorem t_mseason {F n w : Nat} {seed : Int32} {g : Mem} (h : MZ (mset g 54 3 0)) (hF : 300 < F) (hn : n ≤ 40) (hw : w ≤ 2) : T (sp_Model_season F seed (nI n) (nI w) g) (fun v => v.1 = 0 ∧ v.2 54 3 = 0 ∧ v.2 78 = g 78) := by
  unfold sp_Model_season
  refine T.eqB (isIn_in 0 2 (by decide) (by decide) (nI_pos (by omega)) (nI_nlt (show w ≤ 2 from hw) (by decide))) ?_
  refine T.neg (by decide) ?_
  refine T.eqB (isIn_in 0 40 (by decide) (by decide) (nI_pos (by omega)) (nI_nlt (show n ≤ 40 from hn) (by decide))) ?_
  refine T.neg (by decide) ?_
  refine T.callB (t_pack (a := 0) (by omega) (by decide) (by decide)) (fun v hv => ?_)
  refine T.callB (P := fun x : Int32 × Mem => x.1 = 0 ∧ MZ x.2 ∧ x.2 54 3 = 0 ∧ x.2 78 = g 78) ?_ (fun x hx => ?_)
  · refine T.cnt n (fun i s => s.1 = 0 ∧ s.2.1 = nI i ∧ MZ s.2.2 ∧ s.2.2 54 3 = 0 ∧ s.2.2 78 = g 78) ?_ ?_ n 0 _ F (by omega) ⟨rfl, rfl, ?_, ?_, ?_⟩ (by omega)
    · rintro i ⟨a, b, m⟩ hi ⟨rfl, rfl, hm, h3, h78⟩
      dsimp only at hm h3 h78
      unfold st_Model_season_61
      refine T.neg (nI_ge hi (by omega)) ?_
      refine T.eqB (hm.records (by omega)) ?_
      refine T.rdB (by decide) (T.pos hm.1 ?_)
      unfold sp_Model_season_j96_61
      refine T.rdB (by decide) (T.pos hm.1 ?_)
      unfold sp_Model_season_j116_61
      refine T.pos rfl ?_
      unfold sp_Model_season_j134_61
      refine T.neg (by decide) ?_
      unfold sp_Model_season_j154_61
      refine T.neg (by decide) ?_
      unfold sp_Model_season_j168_61
      refine T.eqB (hm.year (by omega)) ?_
      refine T.eqB (hm.setYear.records (by omega)) (T.pos rfl (T.some' (Or.inl ⟨_, rfl, rfl, nI_1 i, hm.setYear, ?_, ?_⟩)))
      · show (mset m 54 24 (m 54 24 + 1)) 54 3 = 0
        rw [mset_get, if_neg (by decide)]; exact h3
      · show (mset m 54 24 (m 54 24 + 1)) 78 = g 78
        rw [mset_rowF _ _ _ (by decide)]; exact h78
    · rintro ⟨a, b, m⟩ ⟨rfl, rfl, hm⟩
      unfold st_Model_season_61
      exact T.pos (nI_le (Nat.le_refl _) (by omega)) (T.some' ⟨_, rfl, rfl, hm⟩)
    · exact (h.off hv (by decide) (by decide)).set (by decide)
    · show (mset v 54 34 seed) 54 3 = 0
      rw [mset_get, if_neg (by decide), hv 54 (by decide), mset_get, if_pos ⟨rfl, rfl⟩]
    · show (mset v 54 34 seed) 78 = g 78
      rw [mset_rowF _ _ _ (by decide), hv 78 (by decide), mset_rowF _ _ _ (by decide)]
  · have fin : ∀ y : Int32, y = 0 → T (sp_Model_season_j229 F seed (nI n) (nI w) g x.2 y) (fun v => v.1 = 0 ∧ v.2 54 3 = 0 ∧ v.2 78 = g 78) := by
      intro y hy
      unfold sp_Model_season_j229
      refine T.callB (t_unpack (a := 0) (by omega) (by decide) (by decide)) (fun u hu => T.some' ⟨hy, ?_, ?_⟩)
      · show u 54 3 = 0
        rw [hu.2 3 (by decide) (by decide) (by decide)]; exact hx.2.2.1
      · show u 78 = g 78
        rw [hu.1 78 (by unfold RU; decide)]; exact hx.2.2.2
    refine T.cond (fun _ => ?_) (fun _ => T.cond (fun _ => ?_) (fun _ => ?_))
    · refine T.eqB (hx.2.1.records (by omega)) (T.eqB (MZ.bits (by omega)) (fin _ rfl))
    · refine T.eqB (hx.2.1.owed (by omega)) (fin _ rfl)
    · exact fin _ hx.1
theorem ev_37 (xs : Nat → Int32) : ∃ g9, sp_case_37 20000 6 xs 0 G0 = some (.inl g9) := by
  rcases inout (xs 3) 2 with ⟨h0, h1⟩ | h
  · rcases inout (xs 2) 40 with ⟨h2, h3⟩ | h
    · obtain ⟨w, hw, e3⟩ := fin_of 2 (by decide) h0 h1
      obtain ⟨n, hn, e2⟩ := fin_of 40 (by decide) h2 h3
      apply T_ex
      unfold sp_case_37
      rw [rx1, rx2, rx3]
      simp only [Option.bind_some]
      rw [e2, e3]
      refine T.callB (P := fun v : Int32 × Mem => v.1 = 0 ∧ v.2 78 0 = 0 ∧ MZ (mset v.2 54 3 0)) ?_ (fun u hu => ?_)
      · unfold sp_Law_season
        refine T.callB (t_hseason (by decide) hn hw) (fun r hr => ?_)
        obtain ⟨m, rfl, hO⟩ := hr
        refine T.wrB (by decide) (T.some' ⟨rfl, ?_, ?_⟩)
        · show (mset m 78 0 0) 78 0 = 0
          rw [mset_get, if_pos ⟨rfl, rfl⟩]
        · refine ⟨?_, ?_⟩
          · show (mset (mset m 78 0 0) 54 3 0) 58 0 = 0
            rw [mset_row _ _ _ _ (by decide), mset_row _ _ _ _ (by decide), hO 58 (by decide)]
            decide +kernel
          · show (mset (mset m 78 0 0) 54 3 0) 54 26 = 0
            rw [mset_get, if_neg (by decide), mset_row _ _ _ _ (by decide), hO 54 (by decide)]
            decide +kernel
      · refine T.callB (t_mseason hu.2.2 (by decide) hn hw) (fun v hv => ?_)
        refine T.eqB (show sp_Model_thrown v.2 = some 0 by unfold sp_Model_thrown; rw [hv.2.1]) ?_
        refine T.pos hu.1.symm (T.pos hu.1 (T.rdB (by decide) (T.pos ?_ (T.some' ⟨_, rfl⟩))))
        show lg_cmp (v.2 78 0).toInt64 v.1.toInt64 = 0
        rw [hv.2.2, hv.1, hu.2.1]
        rfl
    · have t1 : sp_Law_season 20000 (xs 1) (xs 2) (xs 3) G0 = some (2, G0) := by
        unfold sp_Law_season sp_Hall_season sp_Hall_needOneOf
        rw [wi_in h0 h1, wi_out h]
        rfl
      have t2 : sp_Model_season 20000 (xs 1) (xs 2) (xs 3) G0 = some (0, mset (mset G0 54 3 0) 54 3 2) := by
        unfold sp_Model_season
        rw [isIn_in 0 2 (by decide) (by decide) h0 h1, isIn_out 0 40 (by decide) (by decide) h]
        rfl
      unfold sp_case_37
      rw [rx1, rx2, rx3]
      simp only [Option.bind_some, t1, t2]
      exact ⟨_, rfl⟩
  · have t1 : sp_Law_season 20000 (xs 1) (xs 2) (xs 3) G0 = some (1, G0) := by
      unfold sp_Law_season sp_Hall_season sp_Hall_needOneOf
      rw [wi_out h]
      rfl
    have t2 : sp_Model_season 20000 (xs 1) (xs 2) (xs 3) G0 = some (0, mset (mset G0 54 3 0) 54 3 1) := by
      unfold sp_Model_season
      rw [isIn_out 0 2 (by decide) (by decide) h]
      rfl
    unfold sp_case_37
    rw [rx1, rx2, rx3]
    simp only [Option.bind_some, t1, t2]
    exact ⟨_, rfl⟩
theorem t_keep {g : Mem} (h : g 26 1 = 0) : T (sp_Acts_keep 26 23 15 g) (fun g' => Off (fun k => k = 26 ∨ k = 27) g g') := by
  unfold sp_Acts_keep
  refine T.pos (by rw [h]; decide) ?_
  unfold sp_Acts_keep_j37 sp_Hair_writeTo
  rw [h]
  refine T.callB (P := fun g' => Off (fun k => k = 26 ∨ k = 27) g g') ?_ (fun v hv => T.some' (hv.ms (Or.inl rfl)))
  refine T.wrB (by decide) (T.wrB (by decide) (T.wrB (by decide) (T.wrB (by decide) (T.cyB (by decide) (T.cyB (by decide) (T.some' ?_))))))
  exact (((((Off.rf.ms (Or.inr rfl)).ms (Or.inr rfl)).ms (Or.inr rfl)).ms (Or.inr rfl)).mr (Or.inr rfl)).mr (Or.inr rfl)
theorem c_acts : G0 26 1 = 0 := by decide +kernel
theorem c_year : G0 23 3 = 0 := by decide +kernel
theorem t_hyears {F n : Nat} (hF : 0 < F) (h1 : 1 ≤ n) (hn : n ≤ 30) : T (sp_Hall_years F (nI n) G0) (fun v => v.1 = nI n ∧ Off (fun k => k < 54) G0 v.2) := by
  unfold sp_Hall_years
  refine T.neg (nI_nlt (show 1 ≤ n from h1) (by omega)) (T.neg (nI_nlt (show n ≤ 30 from hn) (by decide)) (T.pos ?_ ?_))
  · rw [c_year, Int32.zero_add]
    exact nI_le (show n ≤ 999 by omega) (by decide)
  · refine T.callB (t_keep c_acts) (fun v hv => ?_)
    have e15 : v 15 0 = 0 := by rw [hv 15 (by decide)]; exact c_monks
    have e23 : v 23 3 = 0 := by rw [hv 23 (by decide)]; exact c_year
    refine T.eqB (c_pass e15 (by decide) hF) (T.some' ⟨?_, ?_⟩)
    · show (mset v 23 3 (v 23 3 + nI n)) 23 3 = nI n
      rw [mset_get, if_pos ⟨rfl, rfl⟩, e23, Int32.zero_add]
    · exact (hv.sub (fun k hk => by rcases hk with rfl | rfl <;> decide)).ms (by decide)
theorem t_myears {F n : Nat} {g : Mem} (h : MZ (mset g 54 3 0)) (hy : g 54 24 = 0) (ha : g 54 27 = 0) (hF : 300 < F) (h1 : 1 ≤ n) (hn : n ≤ 30) : T (sp_Model_years F (nI n) g) (fun v => v.1 = nI n) := by
  unfold sp_Model_years
  refine T.eqB (isIn_in 1 30 (by decide) (by decide) (nI_nlt (show 1 ≤ n from h1) (by omega)) (nI_nlt (show n ≤ 30 from hn) (by decide))) ?_
  refine T.neg (by decide) (T.pos ?_ ?_)
  · rw [mset_get, if_neg (by decide), hy, Int32.zero_add]
    exact nI_le (show n ≤ 999 by omega) (by decide)
  · have ha' : (mset g 54 3 0) 54 27 = 0 := by rw [mset_get, if_neg (by decide), ha]
    refine T.callB (P := fun g' : Mem => MZ g' ∧ g' 54 24 = nI 0) ?_ (fun v hv => ?_)
    · unfold sp_Model_keep
      refine T.neg (by rw [ha']; decide) ?_
      unfold sp_Model_keep_j54
      rw [ha']
      refine T.callB (t_pack (a := 0) (by omega) (by decide) (by decide)) (fun v hv => T.some' ⟨?_, ?_⟩)
      · exact (h.off hv (by decide) (by decide)).set (by decide)
      · show (mset v 54 27 _) 54 24 = nI 0
        rw [mset_get, if_neg (by decide), hv 54 (by decide), mset_get, if_neg (by decide), hy]
        rfl
    · refine T.callB (P := fun g' : Mem => g' 54 24 = nI n) ?_ (fun v hv => T.some' hv)
      refine T.cnt n (fun i s => s.1 = nI i ∧ MZ s.2 ∧ s.2 54 24 = nI i) ?_ ?_ n 0 _ F (by omega) ⟨rfl, hv⟩ (by omega)
      · rintro i ⟨b, m⟩ hi ⟨rfl, hm, h24⟩
        dsimp only at hm h24
        unfold st_Model_years_41
        refine T.neg (nI_ge hi (by omega)) ?_
        refine T.eqB (hm.year (by omega)) (T.some' (Or.inl ⟨_, rfl, nI_1 i, hm.setYear, ?_⟩))
        show (mset m 54 24 (m 54 24 + 1)) 54 24 = nI (i + 1)
        rw [mset_get, if_pos ⟨rfl, rfl⟩, h24]
        exact nI_1 i
      · rintro ⟨b, m⟩ ⟨rfl, hm, h24⟩
        unfold st_Model_years_41
        exact T.pos (nI_le (Nat.le_refl _) (by omega)) (T.some' ⟨_, rfl, h24⟩)
theorem ev_8 (xs : Nat → Int32) : ∃ g9, sp_case_8 20000 6 xs 0 G0 = some (.inl g9) := by
  by_cases h : xs 1 < 1 ∨ 30 < xs 1
  · have t1 : sp_Hall_years 20000 (xs 1) G0 = some (-1, mset G0 2 1 (G0 2 1 + 1)) := by
      unfold sp_Hall_years
      by_cases c : xs 1 < 1
      · rw [if_pos c]; rfl
      · rw [if_neg c, if_pos (h.resolve_left c)]; rfl
    have t2 : sp_Model_years 20000 (xs 1) (mset G0 2 1 (G0 2 1 + 1)) = some (-1, mset (mset (mset G0 2 1 (G0 2 1 + 1)) 54 3 0) 64 1 ((mset (mset G0 2 1 (G0 2 1 + 1)) 54 3 0) 64 1 + 1)) := by
      unfold sp_Model_years
      rw [isIn_out 1 30 (by decide) (by decide) h]
      rfl
    unfold sp_case_8
    rw [rx1]
    simp only [Option.bind_some, t1, t2]
    exact ⟨_, rfl⟩
  · have h1 : ¬ xs 1 < 1 := fun q => h (Or.inl q)
    have h2 : ¬ 30 < xs 1 := fun q => h (Or.inr q)
    obtain ⟨n, hn, e⟩ := fin_of (p := xs 1) 30 (by decide) (fun q => h1 (Int32.lt_trans q (by decide))) h2
    have hn1 : 1 ≤ n := by
      rcases Nat.eq_zero_or_pos n with rfl | q
      · rw [e] at h1; exact absurd (show nI 0 < 1 by decide) h1
      · exact q
    apply T_ex
    unfold sp_case_8
    rw [rx1]
    simp only [Option.bind_some]
    rw [e]
    refine T.callB (t_hyears (by decide) hn1 hn) (fun u hu => ?_)
    refine T.callB (t_myears ?_ ?_ ?_ (by decide) hn1 hn) (fun v hv => T.pos (by rw [hu.1, hv]) (T.some' ⟨_, rfl⟩))
    · refine ⟨?_, ?_⟩
      · rw [mset_row _ _ _ _ (by decide), hu.2 58 (by decide)]
        decide +kernel
      · rw [mset_get, if_neg (by decide), hu.2 54 (by decide)]
        decide +kernel
    · rw [hu.2 54 (by decide)]
      decide +kernel
    · rw [hu.2 54 (by decide)]
      decide +kernel
theorem im_c : (sp_Hall_image G0).isSome = true := by decide +kernel
theorem ev_38 (xs : Nat → Int32) : ∃ g9, sp_case_38 20000 6 xs 0 G0 = some (.inl g9) := by
  apply T_ex
  unfold sp_case_38
  obtain ⟨v, hv⟩ := Option.isSome_iff_exists.mp im_c
  refine T.eqB hv ?_
  refine T.callB (P := fun _ => True) ?_ (fun w _ => T.some' ⟨_, rfl⟩)
  unfold sp_Model_image
  refine T.callB (t_pack (a := 0) (by decide) (by decide) (by decide)) (fun v1 _ => ?_)
  refine T.callB (t_be (by decide) (by decide) (by decide)) (fun v2 _ => ?_)
  refine T.callB (t_be (by decide) (by decide) (by decide)) (fun v3 _ => ?_)
  refine T.callB (t_be (by decide) (by decide) (by decide)) (fun v4 _ => ?_)
  refine T.callB (t_be (by decide) (by decide) (by decide)) (fun v5 _ => ?_)
  exact T.some' trivial
theorem p1_eval (xs : Nat → Int32) : ∃ g9, sp_sw 20000 6 xs 0 (GF (fun _ _ => 0)) (xs (0 : Int32).toNatClampNeg &&& 63) = some (.inl g9) := by
  generalize (xs (0 : Int32).toNatClampNeg &&& 63) = c
  show ∃ g9, sp_sw 20000 6 xs 0 G0 c = _
  unfold sp_sw
  by_cases c0 : c = 0
  · rw [if_pos c0]; exact ev_0 xs
  rw [if_neg c0]
  by_cases c1 : c = 1
  · rw [if_pos c1]; exact ev_1 xs
  rw [if_neg c1]
  by_cases c2 : c = 2
  · rw [if_pos c2]; exact ev_2 xs
  rw [if_neg c2]
  by_cases c3 : c = 3
  · rw [if_pos c3]; exact ev_3 xs
  rw [if_neg c3]
  by_cases c4 : c = 4
  · rw [if_pos c4]; exact ev_4 xs
  rw [if_neg c4]
  by_cases c5 : c = 5
  · rw [if_pos c5]; exact ev_5 xs
  rw [if_neg c5]
  by_cases c6 : c = 6
  · rw [if_pos c6]; exact ev_6 xs
  rw [if_neg c6]
  by_cases c7 : c = 7
  · rw [if_pos c7]; exact ev_7 xs
  rw [if_neg c7]
  by_cases c8 : c = 8
  · rw [if_pos c8]; exact ev_8 xs
  rw [if_neg c8]
  by_cases c9 : c = 9
  · rw [if_pos c9]; exact ev_9 xs
  rw [if_neg c9]
  by_cases c10 : c = 10
  · rw [if_pos c10]; exact ev_10 xs
  rw [if_neg c10]
  by_cases c11 : c = 11
  · rw [if_pos c11]; exact ev_11 xs
  rw [if_neg c11]
  by_cases c12 : c = 12
  · rw [if_pos c12]; exact ev_12 xs
  rw [if_neg c12]
  by_cases c13 : c = 13
  · rw [if_pos c13]; exact ev_13 xs
  rw [if_neg c13]
  by_cases c14 : c = 14
  · rw [if_pos c14]; exact ev_14 xs
  rw [if_neg c14]
  by_cases c15 : c = 15
  · rw [if_pos c15]; exact ev_15 xs
  rw [if_neg c15]
  by_cases c16 : c = 16
  · rw [if_pos c16]; exact ev_16 xs
  rw [if_neg c16]
  by_cases c17 : c = 17
  · rw [if_pos c17]; exact ev_17 xs
  rw [if_neg c17]
  by_cases c18 : c = 18
  · rw [if_pos c18]; exact ev_18 xs
  rw [if_neg c18]
  by_cases c19 : c = 19
  · rw [if_pos c19]; exact ev_19 xs
  rw [if_neg c19]
  by_cases c20 : c = 20
  · rw [if_pos c20]; exact ev_20 xs
  rw [if_neg c20]
  by_cases c21 : c = 21
  · rw [if_pos c21]; exact ev_21 xs
  rw [if_neg c21]
  by_cases c22 : c = 22
  · rw [if_pos c22]; exact ev_22 xs
  rw [if_neg c22]
  by_cases c23 : c = 23
  · rw [if_pos c23]; exact ev_23 xs
  rw [if_neg c23]
  by_cases c24 : c = 24
  · rw [if_pos c24]; exact ev_24 xs
  rw [if_neg c24]
  by_cases c25 : c = 25
  · rw [if_pos c25]; exact ev_25 xs
  rw [if_neg c25]
  by_cases c26 : c = 26
  · rw [if_pos c26]; exact ev_26 xs
  rw [if_neg c26]
  by_cases c27 : c = 27
  · rw [if_pos c27]; exact ev_27 xs
  rw [if_neg c27]
  by_cases c28 : c = 28
  · rw [if_pos c28]; exact ev_28 xs
  rw [if_neg c28]
  by_cases c29 : c = 29
  · rw [if_pos c29]; exact ev_29 xs
  rw [if_neg c29]
  by_cases c30 : c = 30
  · rw [if_pos c30]; exact ev_30 xs
  rw [if_neg c30]
  by_cases c31 : c = 31
  · rw [if_pos c31]; exact ev_31 xs
  rw [if_neg c31]
  by_cases c32 : c = 32
  · rw [if_pos c32]; exact ev_32 xs
  rw [if_neg c32]
  by_cases c33 : c = 33
  · rw [if_pos c33]; exact ev_33 xs
  rw [if_neg c33]
  by_cases c34 : c = 34
  · rw [if_pos c34]; exact ev_34 xs
  rw [if_neg c34]
  by_cases c35 : c = 35
  · rw [if_pos c35]; exact ev_35 xs
  rw [if_neg c35]
  by_cases c36 : c = 36
  · rw [if_pos c36]; exact ev_36 xs
  rw [if_neg c36]
  by_cases c37 : c = 37
  · rw [if_pos c37]; exact ev_37 xs
  rw [if_neg c37]
  by_cases c38 : c = 38
  · rw [if_pos c38]; exact ev_38 xs
  rw [if_neg c38]
  by_cases c39 : c = 39
  · rw [if_pos c39]; exact ev_39 xs
  rw [if_neg c39]
  exact ⟨_, rfl⟩
