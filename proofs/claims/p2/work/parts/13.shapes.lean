/-! the shapes of the running system (by program), and what a class's objects are -/
def SH : List Sh := [(0, 11, [3, 0, 0, 4, 5, 17, 25, 28, 30, 33, 44, 45, 47, 51], 0), (1, 1, [], 700), (1, 0, [], 3), (0, 6, [6, 14, 3, 0, 0, 0, 0, 0, 0, 0, 0], 0), (0, 7, [0, 0, 0, 0, 7, 8, 9, 10], 0), (1, 0, [], 6), (1, 0, [], 6), (1, 0, [], 192), (0, 8, [11, 12, 13, 0], 0), (1, 0, [], 700), (1, 0, [], 7), (1, 0, [], 40), (0, 2, [6, 15, 16, 0, 0, 0, 0], 0), (1, 0, [], 6), (1, 0, [], 6), (0, 7, [0, 0, 0, 0, 18, 19, 20, 21], 0), (1, 0, [], 6), (1, 0, [], 6), (1, 0, [], 192), (0, 8, [22, 23, 24, 0], 0), (1, 0, [], 700), (1, 0, [], 7), (1, 0, [], 40), (0, 2, [17, 26, 27, 0, 0, 0, 0], 0), (1, 0, [], 6), (1, 0, [], 6), (0, 0, [29, 0], 0), (1, 0, [], 640), (0, 10, [31, 32, 0], 0), (1, 0, [], 8), (1, 0, [], 8), (0, 3, [0, 41, 34, 35, 37, 40], 0), (1, 0, [], 192), (0, 0, [36, 0], 0), (1, 0, [], 640), (0, 10, [38, 39, 0], 0), (1, 0, [], 8), (1, 0, [], 8), (1, 0, [], 3), (0, 2, [17, 42, 43, 0, 0, 0, 0], 0), (1, 0, [], 6), (1, 0, [], 6), (0, 5, [25, 17], 0), (0, 4, [25, 17, 46], 0), (1, 0, [], 6), (0, 1, [25, 17, 48, 49, 50], 0), (1, 0, [], 6), (1, 0, [], 36), (1, 0, [], 36), (0, 9, [52, 55, 0, 0], 0), (0, 2, [17, 53, 54, 0, 0, 0, 0], 0), (1, 0, [], 6), (1, 0, [], 6), (0, 5, [52, 17], 0), (0, 12, [57, 58, 59, 0, 60, 61, 62, 63, 64, 65, 66, 67, 0, 0, 0, 0, 0, 0, 0, 0, 0, 0, 68, 69, 0, 0, 0, 0, 0, 70, 71, 72, 73, 74, 0, 0, 0, 0, 75, 76, 77, 78, 79], 0), (3, 0, [1048592, 1048593, 1048594, 1048595], 4), (3, 0, [1048596, 1048597, 1048598, 1048599], 4), (3, 0, [1048600, 1048601, 1048602, 1048603, 1048604, 1048605, 1048606], 7), (1, 0, [], 12), (1, 0, [], 12), (1, 0, [], 12), (1, 0, [], 12), (1, 0, [], 432), (1, 0, [], 1400), (1, 0, [], 3), (1, 0, [], 700), (1, 0, [], 6), (1, 0, [], 9240), (1, 0, [], 7), (1, 0, [], 64), (1, 0, [], 231), (1, 0, [], 8), (1, 0, [], 8), (1, 0, [], 231), (1, 0, [], 9240), (1, 0, [], 8), (1, 0, [], 8), (1, 0, [], 3), (2, 0, [], 1)]
abbrev isRule (sh : List Sh) (u : Nat) : Prop := sh[u]? = some (0, 8, [u + 1 + 2, u + 2 + 2, u + 3 + 2, 0], 0) ∧ u < 1048576 ∧ isA sh (u + 1) 700 ∧ isA sh (u + 2) 7 ∧ isA sh (u + 3) 40
abbrev isRoll (sh : List Sh) (r : Nat) : Prop := sh[r]? = some (0, 7, [0, 0, 0, 0, r + 1 + 2, r + 2 + 2, r + 3 + 2, r + 4 + 2], 0) ∧ r < 1048576 ∧ isA sh (r + 1) 6 ∧ isA sh (r + 2) 6 ∧ isA sh (r + 3) 192 ∧ isRule sh (r + 4)
abbrev isHair (sh : List Sh) (h r : Nat) : Prop := sh[h]? = some (0, 2, [r + 2, h + 1 + 2, h + 2 + 2, 0, 0, 0, 0], 0) ∧ h < 1048576 ∧ isA sh (h + 1) 6 ∧ isA sh (h + 2) 6 ∧ isRoll sh r
abbrev isActs (sh : List Sh) (a : Nat) : Prop := sh[a]? = some (0, 0, [a + 1 + 2, 0], 0) ∧ a < 1048576 ∧ isA sh (a + 1) 640
abbrev isSeen (sh : List Sh) (e : Nat) : Prop := sh[e]? = some (0, 10, [e + 1 + 2, e + 2 + 2, 0], 0) ∧ e < 1048576 ∧ isA sh (e + 1) 8 ∧ isA sh (e + 2) 8
abbrev isLaws (sh : List Sh) (w h r : Nat) : Prop := sh[w]? = some (0, 5, [h + 2, r + 2], 0) ∧ w < 1048576 ∧ isHair sh h r
/-- a row of texts that lie one behind another -/
abbrev isS (sh : List Sh) (p j n : Nat) : Prop := sh[p]? = some (3, 0, (List.range n).map (fun i => 1048576 + (j + i) + 1), n) ∧ p < 1048576 ∧ j + n ≤ 39
theorem isS_at {sh : List Sh} {p j n : Nat} {i : Int32} (_ : isS sh p j n) (hi : inb i n = true) : ((List.range n).map (fun i => 1048576 + (j + i) + 1)).getD i.toNatClampNeg 0 = 1048576 + (j + i.toNatClampNeg) + 1 := by
  simp only [inb, Bool.and_eq_true, decide_eq_true_eq] at hi
  rw [List.getD_eq_getElem?_getD, List.getElem?_map, List.getElem?_range hi.2]
  rfl
theorem isS_lt {sh : List Sh} {p j n : Nat} {i : Int32} (h : isS sh p j n) (hi : inb i n = true) : j + i.toNatClampNeg < 39 := by
  simp only [inb, Bool.and_eq_true, decide_eq_true_eq] at hi
  have := h.2.2
  omega
def rS (n : Nat) (i : Int32) : Option Nat := if inb i n = true then some i.toNatClampNeg else none
theorem rS_ok {n v : Nat} {i : Int32} (h : rS n i = some v) : inb i n = true ∧ v = i.toNatClampNeg := by
  unfold rS at h
  split at h
  · rename_i h1; exact ⟨h1, (Option.some.inj h).symm⟩
  · cases h
def bl (x : Int32) : Option Int32 := if x = 0 ∨ x = 1 then some x else none
theorem bl_ok {x v : Int32} (h : bl x = some v) : v = x ∧ narrow .boolean (.int x) = .int x := by
  unfold bl at h
  split at h
  · rename_i h1
    refine ⟨(Option.some.inj h).symm, ?_⟩
    rcases h1 with rfl | rfl <;> rfl
  · cases h
theorem sw_out {x : Int} {lo hi : Int} (h : ∀ c : Int, lo ≤ c → c ≤ hi → x = c → False) : x < lo ∨ hi < x := by
  rcases Int.lt_or_le x lo with h1 | h1
  · exact Or.inl h1
  · rcases Int.lt_or_le hi x with h2 | h2
    · exact Or.inr h2
    · exact absurd rfl (fun e => h x h1 h2 e)
def LSb : List (Option Value) → List (Option Value) → Prop
  | [], _ => True
  | none :: l', [] => LSb l' []
  | none :: l', _ :: l => LSb l' l
  | some _ :: _, [] => False
  | some v :: l', o :: l => o = some v ∧ LSb l' l
theorem LSb.ok : ∀ {ls' ls : List (Option Value)}, LSb ls' ls → ∀ (i : Nat) (v : Value), ls'[i]? = some (some v) → ls[i]? = some (some v) := by
  intro ls'
  induction ls' with
  | nil => intro ls _ i v h; cases h
  | cons o l' ih =>
    intro ls h i v hv
    cases o with
    | none =>
      cases ls with
      | nil =>
        cases i with
        | zero => cases hv
        | succ i => have := ih h i v hv; cases this
      | cons a l =>
        cases i with
        | zero => cases hv
        | succ i => exact ih h i v hv
    | some w =>
      cases ls with
      | nil => exact h.elim
      | cons a l =>
        obtain ⟨rfl, h2⟩ := h
        cases i with
        | zero => exact hv
        | succ i => exact ih h2 i v hv
theorem w_ls {γ : GG} {M : MI} {n pc : Nat} {ls ls' : List (Option Value)} {st : List Value} {sh : List Sh} {g : Mem} {tt : Bool} {b : Nat × Nat} {Φ : PO} (h : LSb ls' ls) (k : WA γ M n pc ls' st sh g tt b Φ) : WA γ M n pc ls st sh g tt b Φ := w_less (LSb.ok h) k
def slen (j : Nat) : Int32 := Int32.ofNat (lenL.getD j 0)
def sch (j : Nat) (i : Int32) : Option Int32 := if inb i (lenL.getD j 0) = true then some ((bytL.getD j []).getD i.toNatClampNeg 0 &&& 255) else none
theorem s_0 : SH[0]? = some (0, 11, [3, 0, 0, 4, 5, 17, 25, 28, 30, 33, 44, 45, 47, 51], 0) := rfl
theorem s_1 : SH[1]? = some (1, 1, [], 700) := rfl
theorem a_1 : isB SH 1 700 := ⟨rfl, by decide⟩
theorem s_2 : SH[2]? = some (1, 0, [], 3) := rfl
theorem a_2 : isA SH 2 3 := ⟨rfl, by decide⟩
theorem s_3 : SH[3]? = some (0, 6, [6, 14, 3, 0, 0, 0, 0, 0, 0, 0, 0], 0) := rfl
theorem s_4 : SH[4]? = some (0, 7, [0, 0, 0, 0, 7, 8, 9, 10], 0) := rfl
theorem s_5 : SH[5]? = some (1, 0, [], 6) := rfl
theorem a_5 : isA SH 5 6 := ⟨rfl, by decide⟩
theorem s_6 : SH[6]? = some (1, 0, [], 6) := rfl
theorem a_6 : isA SH 6 6 := ⟨rfl, by decide⟩
theorem s_7 : SH[7]? = some (1, 0, [], 192) := rfl
theorem a_7 : isA SH 7 192 := ⟨rfl, by decide⟩
theorem s_8 : SH[8]? = some (0, 8, [11, 12, 13, 0], 0) := rfl
theorem s_9 : SH[9]? = some (1, 0, [], 700) := rfl
theorem a_9 : isA SH 9 700 := ⟨rfl, by decide⟩
theorem s_10 : SH[10]? = some (1, 0, [], 7) := rfl
theorem a_10 : isA SH 10 7 := ⟨rfl, by decide⟩
theorem s_11 : SH[11]? = some (1, 0, [], 40) := rfl
theorem a_11 : isA SH 11 40 := ⟨rfl, by decide⟩
theorem s_12 : SH[12]? = some (0, 2, [6, 15, 16, 0, 0, 0, 0], 0) := rfl
theorem s_13 : SH[13]? = some (1, 0, [], 6) := rfl
theorem a_13 : isA SH 13 6 := ⟨rfl, by decide⟩
theorem s_14 : SH[14]? = some (1, 0, [], 6) := rfl
theorem a_14 : isA SH 14 6 := ⟨rfl, by decide⟩
theorem s_15 : SH[15]? = some (0, 7, [0, 0, 0, 0, 18, 19, 20, 21], 0) := rfl
theorem s_16 : SH[16]? = some (1, 0, [], 6) := rfl
theorem a_16 : isA SH 16 6 := ⟨rfl, by decide⟩
theorem s_17 : SH[17]? = some (1, 0, [], 6) := rfl
theorem a_17 : isA SH 17 6 := ⟨rfl, by decide⟩
theorem s_18 : SH[18]? = some (1, 0, [], 192) := rfl
theorem a_18 : isA SH 18 192 := ⟨rfl, by decide⟩
theorem s_19 : SH[19]? = some (0, 8, [22, 23, 24, 0], 0) := rfl
theorem s_20 : SH[20]? = some (1, 0, [], 700) := rfl
theorem a_20 : isA SH 20 700 := ⟨rfl, by decide⟩
theorem s_21 : SH[21]? = some (1, 0, [], 7) := rfl
theorem a_21 : isA SH 21 7 := ⟨rfl, by decide⟩
theorem s_22 : SH[22]? = some (1, 0, [], 40) := rfl
theorem a_22 : isA SH 22 40 := ⟨rfl, by decide⟩
theorem s_23 : SH[23]? = some (0, 2, [17, 26, 27, 0, 0, 0, 0], 0) := rfl
theorem s_24 : SH[24]? = some (1, 0, [], 6) := rfl
theorem a_24 : isA SH 24 6 := ⟨rfl, by decide⟩
theorem s_25 : SH[25]? = some (1, 0, [], 6) := rfl
theorem a_25 : isA SH 25 6 := ⟨rfl, by decide⟩
theorem s_26 : SH[26]? = some (0, 0, [29, 0], 0) := rfl
theorem s_27 : SH[27]? = some (1, 0, [], 640) := rfl
theorem a_27 : isA SH 27 640 := ⟨rfl, by decide⟩
theorem s_28 : SH[28]? = some (0, 10, [31, 32, 0], 0) := rfl
theorem s_29 : SH[29]? = some (1, 0, [], 8) := rfl
theorem a_29 : isA SH 29 8 := ⟨rfl, by decide⟩
theorem s_30 : SH[30]? = some (1, 0, [], 8) := rfl
theorem a_30 : isA SH 30 8 := ⟨rfl, by decide⟩
theorem s_31 : SH[31]? = some (0, 3, [0, 41, 34, 35, 37, 40], 0) := rfl
theorem s_32 : SH[32]? = some (1, 0, [], 192) := rfl
theorem a_32 : isA SH 32 192 := ⟨rfl, by decide⟩
theorem s_33 : SH[33]? = some (0, 0, [36, 0], 0) := rfl
theorem s_34 : SH[34]? = some (1, 0, [], 640) := rfl
theorem a_34 : isA SH 34 640 := ⟨rfl, by decide⟩
theorem s_35 : SH[35]? = some (0, 10, [38, 39, 0], 0) := rfl
theorem s_36 : SH[36]? = some (1, 0, [], 8) := rfl
theorem a_36 : isA SH 36 8 := ⟨rfl, by decide⟩
theorem s_37 : SH[37]? = some (1, 0, [], 8) := rfl
theorem a_37 : isA SH 37 8 := ⟨rfl, by decide⟩
theorem s_38 : SH[38]? = some (1, 0, [], 3) := rfl
theorem a_38 : isA SH 38 3 := ⟨rfl, by decide⟩
theorem s_39 : SH[39]? = some (0, 2, [17, 42, 43, 0, 0, 0, 0], 0) := rfl
theorem s_40 : SH[40]? = some (1, 0, [], 6) := rfl
theorem a_40 : isA SH 40 6 := ⟨rfl, by decide⟩
theorem s_41 : SH[41]? = some (1, 0, [], 6) := rfl
theorem a_41 : isA SH 41 6 := ⟨rfl, by decide⟩
theorem s_42 : SH[42]? = some (0, 5, [25, 17], 0) := rfl
theorem s_43 : SH[43]? = some (0, 4, [25, 17, 46], 0) := rfl
theorem s_44 : SH[44]? = some (1, 0, [], 6) := rfl
theorem a_44 : isA SH 44 6 := ⟨rfl, by decide⟩
theorem s_45 : SH[45]? = some (0, 1, [25, 17, 48, 49, 50], 0) := rfl
theorem s_46 : SH[46]? = some (1, 0, [], 6) := rfl
theorem a_46 : isA SH 46 6 := ⟨rfl, by decide⟩
theorem s_47 : SH[47]? = some (1, 0, [], 36) := rfl
theorem a_47 : isA SH 47 36 := ⟨rfl, by decide⟩
theorem s_48 : SH[48]? = some (1, 0, [], 36) := rfl
theorem a_48 : isA SH 48 36 := ⟨rfl, by decide⟩
theorem s_49 : SH[49]? = some (0, 9, [52, 55, 0, 0], 0) := rfl
theorem s_50 : SH[50]? = some (0, 2, [17, 53, 54, 0, 0, 0, 0], 0) := rfl
theorem s_51 : SH[51]? = some (1, 0, [], 6) := rfl
theorem a_51 : isA SH 51 6 := ⟨rfl, by decide⟩
theorem s_52 : SH[52]? = some (1, 0, [], 6) := rfl
theorem a_52 : isA SH 52 6 := ⟨rfl, by decide⟩
theorem s_53 : SH[53]? = some (0, 5, [52, 17], 0) := rfl
theorem s_54 : SH[54]? = some (0, 12, [57, 58, 59, 0, 60, 61, 62, 63, 64, 65, 66, 67, 0, 0, 0, 0, 0, 0, 0, 0, 0, 0, 68, 69, 0, 0, 0, 0, 0, 70, 71, 72, 73, 74, 0, 0, 0, 0, 75, 76, 77, 78, 79], 0) := rfl
theorem s_55 : SH[55]? = some (3, 0, [1048592, 1048593, 1048594, 1048595], 4) := rfl
theorem t_55 : isS SH 55 15 4 := ⟨rfl, by decide, by decide⟩
theorem s_56 : SH[56]? = some (3, 0, [1048596, 1048597, 1048598, 1048599], 4) := rfl
theorem t_56 : isS SH 56 19 4 := ⟨rfl, by decide, by decide⟩
theorem s_57 : SH[57]? = some (3, 0, [1048600, 1048601, 1048602, 1048603, 1048604, 1048605, 1048606], 7) := rfl
theorem t_57 : isS SH 57 23 7 := ⟨rfl, by decide, by decide⟩
theorem s_58 : SH[58]? = some (1, 0, [], 12) := rfl
theorem a_58 : isA SH 58 12 := ⟨rfl, by decide⟩
theorem s_59 : SH[59]? = some (1, 0, [], 12) := rfl
theorem a_59 : isA SH 59 12 := ⟨rfl, by decide⟩
theorem s_60 : SH[60]? = some (1, 0, [], 12) := rfl
theorem a_60 : isA SH 60 12 := ⟨rfl, by decide⟩
theorem s_61 : SH[61]? = some (1, 0, [], 12) := rfl
theorem a_61 : isA SH 61 12 := ⟨rfl, by decide⟩
theorem s_62 : SH[62]? = some (1, 0, [], 432) := rfl
theorem a_62 : isA SH 62 432 := ⟨rfl, by decide⟩
theorem s_63 : SH[63]? = some (1, 0, [], 1400) := rfl
theorem a_63 : isA SH 63 1400 := ⟨rfl, by decide⟩
theorem s_64 : SH[64]? = some (1, 0, [], 3) := rfl
theorem a_64 : isA SH 64 3 := ⟨rfl, by decide⟩
theorem s_65 : SH[65]? = some (1, 0, [], 700) := rfl
theorem a_65 : isA SH 65 700 := ⟨rfl, by decide⟩
theorem s_66 : SH[66]? = some (1, 0, [], 6) := rfl
theorem a_66 : isA SH 66 6 := ⟨rfl, by decide⟩
theorem s_67 : SH[67]? = some (1, 0, [], 9240) := rfl
theorem a_67 : isA SH 67 9240 := ⟨rfl, by decide⟩
theorem s_68 : SH[68]? = some (1, 0, [], 7) := rfl
theorem a_68 : isA SH 68 7 := ⟨rfl, by decide⟩
theorem s_69 : SH[69]? = some (1, 0, [], 64) := rfl
theorem a_69 : isA SH 69 64 := ⟨rfl, by decide⟩
theorem s_70 : SH[70]? = some (1, 0, [], 231) := rfl
theorem a_70 : isA SH 70 231 := ⟨rfl, by decide⟩
theorem s_71 : SH[71]? = some (1, 0, [], 8) := rfl
theorem a_71 : isA SH 71 8 := ⟨rfl, by decide⟩
theorem s_72 : SH[72]? = some (1, 0, [], 8) := rfl
theorem a_72 : isA SH 72 8 := ⟨rfl, by decide⟩
theorem s_73 : SH[73]? = some (1, 0, [], 231) := rfl
theorem a_73 : isA SH 73 231 := ⟨rfl, by decide⟩
theorem s_74 : SH[74]? = some (1, 0, [], 9240) := rfl
theorem a_74 : isA SH 74 9240 := ⟨rfl, by decide⟩
theorem s_75 : SH[75]? = some (1, 0, [], 8) := rfl
theorem a_75 : isA SH 75 8 := ⟨rfl, by decide⟩
theorem s_76 : SH[76]? = some (1, 0, [], 8) := rfl
theorem a_76 : isA SH 76 8 := ⟨rfl, by decide⟩
theorem s_77 : SH[77]? = some (1, 0, [], 3) := rfl
theorem a_77 : isA SH 77 3 := ⟨rfl, by decide⟩
theorem s_78 : SH[78]? = some (2, 0, [], 1) := rfl
theorem l_78 : SH[78]? = some (2, 0, [], 1) ∧ 78 < 1048576 := ⟨rfl, by decide⟩
theorem i_8 : isRule SH 8 := ⟨rfl, by decide, ⟨rfl, by decide⟩, ⟨rfl, by decide⟩, rfl, by decide⟩
theorem i_19 : isRule SH 19 := ⟨rfl, by decide, ⟨rfl, by decide⟩, ⟨rfl, by decide⟩, rfl, by decide⟩
theorem i_4 : isRoll SH 4 := ⟨rfl, by decide, ⟨rfl, by decide⟩, ⟨rfl, by decide⟩, ⟨rfl, by decide⟩, i_8⟩
theorem i_15 : isRoll SH 15 := ⟨rfl, by decide, ⟨rfl, by decide⟩, ⟨rfl, by decide⟩, ⟨rfl, by decide⟩, i_19⟩
theorem i_26 : isActs SH 26 := ⟨rfl, by decide, rfl, by decide⟩
theorem i_28 : isSeen SH 28 := ⟨rfl, by decide, ⟨rfl, by decide⟩, rfl, by decide⟩
theorem i_33 : isActs SH 33 := ⟨rfl, by decide, rfl, by decide⟩
theorem i_35 : isSeen SH 35 := ⟨rfl, by decide, ⟨rfl, by decide⟩, rfl, by decide⟩
theorem i_12 : isHair SH 12 4 := ⟨rfl, by decide, ⟨rfl, by decide⟩, ⟨rfl, by decide⟩, i_4⟩
theorem i_23 : isHair SH 23 15 := ⟨rfl, by decide, ⟨rfl, by decide⟩, ⟨rfl, by decide⟩, i_15⟩
theorem i_39 : isHair SH 39 15 := ⟨rfl, by decide, ⟨rfl, by decide⟩, ⟨rfl, by decide⟩, i_15⟩
theorem i_50 : isHair SH 50 15 := ⟨rfl, by decide, ⟨rfl, by decide⟩, ⟨rfl, by decide⟩, i_15⟩
theorem i_42 : isLaws SH 42 23 15 := ⟨rfl, by decide, i_23⟩
theorem i_53 : isLaws SH 53 50 15 := ⟨rfl, by decide, i_50⟩
theorem wd_native : Cond.native arraycopyName ∈ lwg := lwg_of ka_2_192.1 rfl
theorem wd_static : Cond.static arraycopyName ∈ lwg := lwg_of ka_2_191.1 rfl
theorem cc_0 : Cond.castable "java/lang/IllegalArgumentException" "java/lang/IllegalArgumentException" ∈ lwg := lwg_of ka_3_131.1 rfl
theorem cc_1 : Cond.castable "java/util/NoSuchElementException" "java/util/NoSuchElementException" ∈ lwg := lwg_of ka_4_174.1 rfl
