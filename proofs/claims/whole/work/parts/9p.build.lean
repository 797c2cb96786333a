/-! ===== printed by wip/whole/gen9p.py: the constructors, cell by cell ===== -/
theorem words0 {μ : Nat → Nat → Int} (h : ∀ j, μ 4 j = 0) : m_upd μ 4 (wst 0).2 = μ := by
  funext a j
  show (if a = 4 then 0 else μ a j) = μ a j
  by_cases e : a = 4
  · rw [if_pos e, e, h]
  · rw [if_neg e]
theorem fl_300 (j : Nat) : fl (fun _ => (-1 : Int)) (fun _ => 0) 300 j = if j < 300 then (-1) else 0 := rfl
theorem fl_90 (j : Nat) : fl (fun _ => (-1 : Int)) (fun _ => 0) 90 j = if j < 90 then (-1) else 0 := rfl
theorem fl_3 (j : Nat) : fl (fun _ => (0 : Int)) (fun _ => 0) 3 j = 0 := by unfold fl; split <;> rfl
theorem wst_out : ∀ i j, i ≤ 78 → 16 ≤ j → (wst i).2 j = 0 := by
  intro i
  induction i with
  | zero => intro j _ _; rfl
  | succ i ih =>
    intro j hi hj
    have b := (wst_b i (by omega)).1
    by_cases h : wtx i = 32
    · rw [wst_s h]; exact ih j (by omega) hj
    · rw [wst_l h]
      show fs (wst i).2 (wst i).1 _ j = 0
      rw [show fs (wst i).2 (wst i).1 ((wst i).2 (wst i).1 * 32 + wtx i - 96) j = (wst i).2 j from if_neg (by omega)]
      exact ih j (by omega) hj
theorem wst_in : ∀ j, j < 16 → (wst 78).2 j = M0 4 j := by decide +kernel
theorem M0_4 {j : Nat} (h : 16 ≤ j) : M0 4 j = 0 := by
  obtain ⟨k, rfl⟩ : ∃ k, j = k + 16 := ⟨j - 16, by omega⟩
  rfl
theorem wst_end (j : Nat) : (wst 78).2 j = M0 4 j := by
  by_cases h : j < 16
  · exact wst_in j h
  · rw [wst_out 78 j (by decide) (by omega), M0_4 (by omega)]
theorem K0t_0 {i : Nat} (h : 0 < i) : (K0.take i)[0]? = some (11, 17) := (List.getElem?_take_of_lt h).trans rfl
theorem K0t_1 {i : Nat} (h : 1 < i) : (K0.take i)[1]? = some (7, 7) := (List.getElem?_take_of_lt h).trans rfl
theorem K0t_2 {i : Nat} (h : 2 < i) : (K0.take i)[2]? = some (100, 940) := (List.getElem?_take_of_lt h).trans rfl
theorem K0t_3 {i : Nat} (h : 3 < i) : (K0.take i)[3]? = some (5, 3) := (List.getElem?_take_of_lt h).trans rfl
theorem K0t_4 {i : Nat} (h : 4 < i) : (K0.take i)[4]? = some (100, 16) := (List.getElem?_take_of_lt h).trans rfl
theorem K0t_5 {i : Nat} (h : 5 < i) : (K0.take i)[5]? = some (2, 4) := (List.getElem?_take_of_lt h).trans rfl
theorem K0t_6 {i : Nat} (h : 6 < i) : (K0.take i)[6]? = some (3, 18) := (List.getElem?_take_of_lt h).trans rfl
theorem K0t_7 {i : Nat} (h : 7 < i) : (K0.take i)[7]? = some (100, 100) := (List.getElem?_take_of_lt h).trans rfl
theorem K0t_8 {i : Nat} (h : 8 < i) : (K0.take i)[8]? = some (100, 300) := (List.getElem?_take_of_lt h).trans rfl
theorem K0t_9 {i : Nat} (h : 9 < i) : (K0.take i)[9]? = some (100, 3) := (List.getElem?_take_of_lt h).trans rfl
theorem K0t_10 {i : Nat} (h : 10 < i) : (K0.take i)[10]? = some (100, 90) := (List.getElem?_take_of_lt h).trans rfl
theorem K0t_11 {i : Nat} (h : 11 < i) : (K0.take i)[11]? = some (100, 8) := (List.getElem?_take_of_lt h).trans rfl
theorem K0t_12 {i : Nat} (h : 12 < i) : (K0.take i)[12]? = some (100, 8) := (List.getElem?_take_of_lt h).trans rfl
theorem K0t_13 {i : Nat} (h : 13 < i) : (K0.take i)[13]? = some (100, 8) := (List.getElem?_take_of_lt h).trans rfl
theorem K0t_14 {i : Nat} (h : 14 < i) : (K0.take i)[14]? = some (6, 5) := (List.getElem?_take_of_lt h).trans rfl
theorem K0t_15 {i : Nat} (h : 15 < i) : (K0.take i)[15]? = some (100, 8) := (List.getElem?_take_of_lt h).trans rfl
theorem K0t_16 {i : Nat} (h : 16 < i) : (K0.take i)[16]? = some (100, 8) := (List.getElem?_take_of_lt h).trans rfl
theorem K0t_17 {i : Nat} (h : 17 < i) : (K0.take i)[17]? = some (4, 4) := (List.getElem?_take_of_lt h).trans rfl
theorem K0t_18 {i : Nat} (h : 18 < i) : (K0.take i)[18]? = some (100, 30) := (List.getElem?_take_of_lt h).trans rfl
theorem K0t_19 {i : Nat} (h : 19 < i) : (K0.take i)[19]? = some (100, 30) := (List.getElem?_take_of_lt h).trans rfl
theorem K0t_20 {i : Nat} (h : 20 < i) : (K0.take i)[20]? = some (100, 30) := (List.getElem?_take_of_lt h).trans rfl
theorem K0t_21 {i : Nat} (h : 21 < i) : (K0.take i)[21]? = some (106, 2) := (List.getElem?_take_of_lt h).trans rfl
theorem K0t_22 {i : Nat} (h : 22 < i) : (K0.take i)[22]? = some (2, 4) := (List.getElem?_take_of_lt h).trans rfl
theorem K0t_23 {i : Nat} (h : 23 < i) : (K0.take i)[23]? = some (3, 18) := (List.getElem?_take_of_lt h).trans rfl
theorem K0t_24 {i : Nat} (h : 24 < i) : (K0.take i)[24]? = some (100, 100) := (List.getElem?_take_of_lt h).trans rfl
theorem K0t_25 {i : Nat} (h : 25 < i) : (K0.take i)[25]? = some (100, 300) := (List.getElem?_take_of_lt h).trans rfl
theorem K0t_26 {i : Nat} (h : 26 < i) : (K0.take i)[26]? = some (100, 3) := (List.getElem?_take_of_lt h).trans rfl
theorem K0t_27 {i : Nat} (h : 27 < i) : (K0.take i)[27]? = some (100, 90) := (List.getElem?_take_of_lt h).trans rfl
theorem K0t_28 {i : Nat} (h : 28 < i) : (K0.take i)[28]? = some (100, 8) := (List.getElem?_take_of_lt h).trans rfl
theorem K0t_29 {i : Nat} (h : 29 < i) : (K0.take i)[29]? = some (100, 8) := (List.getElem?_take_of_lt h).trans rfl
theorem K0t_30 {i : Nat} (h : 30 < i) : (K0.take i)[30]? = some (100, 8) := (List.getElem?_take_of_lt h).trans rfl
theorem K0t_31 {i : Nat} (h : 31 < i) : (K0.take i)[31]? = some (6, 5) := (List.getElem?_take_of_lt h).trans rfl
theorem K0t_32 {i : Nat} (h : 32 < i) : (K0.take i)[32]? = some (100, 8) := (List.getElem?_take_of_lt h).trans rfl
theorem K0t_33 {i : Nat} (h : 33 < i) : (K0.take i)[33]? = some (100, 8) := (List.getElem?_take_of_lt h).trans rfl
theorem K0t_34 {i : Nat} (h : 34 < i) : (K0.take i)[34]? = some (4, 4) := (List.getElem?_take_of_lt h).trans rfl
theorem K0t_35 {i : Nat} (h : 35 < i) : (K0.take i)[35]? = some (100, 30) := (List.getElem?_take_of_lt h).trans rfl
theorem K0t_36 {i : Nat} (h : 36 < i) : (K0.take i)[36]? = some (100, 30) := (List.getElem?_take_of_lt h).trans rfl
theorem K0t_37 {i : Nat} (h : 37 < i) : (K0.take i)[37]? = some (100, 30) := (List.getElem?_take_of_lt h).trans rfl
theorem K0t_38 {i : Nat} (h : 38 < i) : (K0.take i)[38]? = some (2, 4) := (List.getElem?_take_of_lt h).trans rfl
theorem K0t_39 {i : Nat} (h : 39 < i) : (K0.take i)[39]? = some (3, 18) := (List.getElem?_take_of_lt h).trans rfl
theorem K0t_40 {i : Nat} (h : 40 < i) : (K0.take i)[40]? = some (100, 100) := (List.getElem?_take_of_lt h).trans rfl
theorem K0t_41 {i : Nat} (h : 41 < i) : (K0.take i)[41]? = some (100, 300) := (List.getElem?_take_of_lt h).trans rfl
theorem K0t_42 {i : Nat} (h : 42 < i) : (K0.take i)[42]? = some (100, 3) := (List.getElem?_take_of_lt h).trans rfl
theorem K0t_43 {i : Nat} (h : 43 < i) : (K0.take i)[43]? = some (100, 90) := (List.getElem?_take_of_lt h).trans rfl
theorem K0t_44 {i : Nat} (h : 44 < i) : (K0.take i)[44]? = some (100, 8) := (List.getElem?_take_of_lt h).trans rfl
theorem K0t_45 {i : Nat} (h : 45 < i) : (K0.take i)[45]? = some (100, 8) := (List.getElem?_take_of_lt h).trans rfl
theorem K0t_46 {i : Nat} (h : 46 < i) : (K0.take i)[46]? = some (100, 8) := (List.getElem?_take_of_lt h).trans rfl
theorem K0t_47 {i : Nat} (h : 47 < i) : (K0.take i)[47]? = some (6, 5) := (List.getElem?_take_of_lt h).trans rfl
theorem K0t_48 {i : Nat} (h : 48 < i) : (K0.take i)[48]? = some (100, 8) := (List.getElem?_take_of_lt h).trans rfl
theorem K0t_49 {i : Nat} (h : 49 < i) : (K0.take i)[49]? = some (100, 8) := (List.getElem?_take_of_lt h).trans rfl
theorem K0t_50 {i : Nat} (h : 50 < i) : (K0.take i)[50]? = some (4, 4) := (List.getElem?_take_of_lt h).trans rfl
theorem K0t_51 {i : Nat} (h : 51 < i) : (K0.take i)[51]? = some (100, 30) := (List.getElem?_take_of_lt h).trans rfl
theorem K0t_52 {i : Nat} (h : 52 < i) : (K0.take i)[52]? = some (100, 30) := (List.getElem?_take_of_lt h).trans rfl
theorem K0t_53 {i : Nat} (h : 53 < i) : (K0.take i)[53]? = some (100, 30) := (List.getElem?_take_of_lt h).trans rfl
theorem K0t_54 {i : Nat} (h : 54 < i) : (K0.take i)[54]? = some (3, 18) := (List.getElem?_take_of_lt h).trans rfl
theorem K0t_55 {i : Nat} (h : 55 < i) : (K0.take i)[55]? = some (100, 100) := (List.getElem?_take_of_lt h).trans rfl
theorem K0t_56 {i : Nat} (h : 56 < i) : (K0.take i)[56]? = some (100, 300) := (List.getElem?_take_of_lt h).trans rfl
theorem K0t_57 {i : Nat} (h : 57 < i) : (K0.take i)[57]? = some (100, 3) := (List.getElem?_take_of_lt h).trans rfl
theorem K0t_58 {i : Nat} (h : 58 < i) : (K0.take i)[58]? = some (100, 90) := (List.getElem?_take_of_lt h).trans rfl
theorem K0t_59 {i : Nat} (h : 59 < i) : (K0.take i)[59]? = some (100, 8) := (List.getElem?_take_of_lt h).trans rfl
theorem K0t_60 {i : Nat} (h : 60 < i) : (K0.take i)[60]? = some (100, 8) := (List.getElem?_take_of_lt h).trans rfl
theorem K0t_61 {i : Nat} (h : 61 < i) : (K0.take i)[61]? = some (100, 8) := (List.getElem?_take_of_lt h).trans rfl
theorem K0t_62 {i : Nat} (h : 62 < i) : (K0.take i)[62]? = some (4, 4) := (List.getElem?_take_of_lt h).trans rfl
theorem K0t_63 {i : Nat} (h : 63 < i) : (K0.take i)[63]? = some (100, 30) := (List.getElem?_take_of_lt h).trans rfl
theorem K0t_64 {i : Nat} (h : 64 < i) : (K0.take i)[64]? = some (100, 30) := (List.getElem?_take_of_lt h).trans rfl
theorem K0t_65 {i : Nat} (h : 65 < i) : (K0.take i)[65]? = some (100, 30) := (List.getElem?_take_of_lt h).trans rfl
theorem K0t_66 {i : Nat} (h : 66 < i) : (K0.take i)[66]? = some (10, 9) := (List.getElem?_take_of_lt h).trans rfl
theorem K0t_67 {i : Nat} (h : 67 < i) : (K0.take i)[67]? = some (102, 100) := (List.getElem?_take_of_lt h).trans rfl
theorem K0t_68 {i : Nat} (h : 68 < i) : (K0.take i)[68]? = some (100, 100) := (List.getElem?_take_of_lt h).trans rfl
theorem K0t_69 {i : Nat} (h : 69 < i) : (K0.take i)[69]? = some (100, 100) := (List.getElem?_take_of_lt h).trans rfl
theorem K0t_70 {i : Nat} (h : 70 < i) : (K0.take i)[70]? = some (100, 100) := (List.getElem?_take_of_lt h).trans rfl
theorem K0t_71 {i : Nat} (h : 71 < i) : (K0.take i)[71]? = some (102, 100) := (List.getElem?_take_of_lt h).trans rfl
theorem K0t_72 {i : Nat} (h : 72 < i) : (K0.take i)[72]? = some (100, 100) := (List.getElem?_take_of_lt h).trans rfl
theorem K0t_73 {i : Nat} (h : 73 < i) : (K0.take i)[73]? = some (100, 100) := (List.getElem?_take_of_lt h).trans rfl
theorem K0t_74 {i : Nat} (h : 74 < i) : (K0.take i)[74]? = some (1, 9) := (List.getElem?_take_of_lt h).trans rfl
theorem K0t_75 {i : Nat} (h : 75 < i) : (K0.take i)[75]? = some (103, 200) := (List.getElem?_take_of_lt h).trans rfl
theorem K0t_76 {i : Nat} (h : 76 < i) : (K0.take i)[76]? = some (103, 200) := (List.getElem?_take_of_lt h).trans rfl
theorem K0t_77 {i : Nat} (h : 77 < i) : (K0.take i)[77]? = some (103, 200) := (List.getElem?_take_of_lt h).trans rfl
theorem K0t_78 {i : Nat} (h : 78 < i) : (K0.take i)[78]? = some (103, 200) := (List.getElem?_take_of_lt h).trans rfl
theorem K0t_79 {i : Nat} (h : 79 < i) : (K0.take i)[79]? = some (100, 100) := (List.getElem?_take_of_lt h).trans rfl
theorem K0t_80 {i : Nat} (h : 80 < i) : (K0.take i)[80]? = some (100, 100) := (List.getElem?_take_of_lt h).trans rfl
theorem K0t_81 {i : Nat} (h : 81 < i) : (K0.take i)[81]? = some (9, 2) := (List.getElem?_take_of_lt h).trans rfl
theorem K0t_82 {i : Nat} (h : 82 < i) : (K0.take i)[82]? = some (0, 10) := (List.getElem?_take_of_lt h).trans rfl
theorem K0t_83 {i : Nat} (h : 83 < i) : (K0.take i)[83]? = some (6, 5) := (List.getElem?_take_of_lt h).trans rfl
theorem K0t_84 {i : Nat} (h : 84 < i) : (K0.take i)[84]? = some (100, 8) := (List.getElem?_take_of_lt h).trans rfl
theorem K0t_85 {i : Nat} (h : 85 < i) : (K0.take i)[85]? = some (100, 8) := (List.getElem?_take_of_lt h).trans rfl
theorem K0t_86 {i : Nat} (h : 86 < i) : (K0.take i)[86]? = some (110, 8) := (List.getElem?_take_of_lt h).trans rfl
theorem K0t_87 {i : Nat} (h : 87 < i) : (K0.take i)[87]? = some (100, 6) := (List.getElem?_take_of_lt h).trans rfl
theorem K0t_88 {i : Nat} (h : 88 < i) : (K0.take i)[88]? = some (6, 5) := (List.getElem?_take_of_lt h).trans rfl
theorem K0t_89 {i : Nat} (h : 89 < i) : (K0.take i)[89]? = some (100, 8) := (List.getElem?_take_of_lt h).trans rfl
theorem K0t_90 {i : Nat} (h : 90 < i) : (K0.take i)[90]? = some (100, 8) := (List.getElem?_take_of_lt h).trans rfl
theorem K0t_91 {i : Nat} (h : 91 < i) : (K0.take i)[91]? = some (6, 5) := (List.getElem?_take_of_lt h).trans rfl
theorem K0t_92 {i : Nat} (h : 92 < i) : (K0.take i)[92]? = some (100, 8) := (List.getElem?_take_of_lt h).trans rfl
theorem K0t_93 {i : Nat} (h : 93 < i) : (K0.take i)[93]? = some (100, 8) := (List.getElem?_take_of_lt h).trans rfl
theorem K0t_94 {i : Nat} (h : 94 < i) : (K0.take i)[94]? = some (6, 5) := (List.getElem?_take_of_lt h).trans rfl
theorem K0t_95 {i : Nat} (h : 95 < i) : (K0.take i)[95]? = some (100, 8) := (List.getElem?_take_of_lt h).trans rfl
theorem K0t_96 {i : Nat} (h : 96 < i) : (K0.take i)[96]? = some (100, 8) := (List.getElem?_take_of_lt h).trans rfl
theorem K0t_97 {i : Nat} (h : 97 < i) : (K0.take i)[97]? = some (6, 5) := (List.getElem?_take_of_lt h).trans rfl
theorem K0t_98 {i : Nat} (h : 98 < i) : (K0.take i)[98]? = some (100, 8) := (List.getElem?_take_of_lt h).trans rfl
theorem K0t_99 {i : Nat} (h : 99 < i) : (K0.take i)[99]? = some (100, 8) := (List.getElem?_take_of_lt h).trans rfl
theorem K0t_100 {i : Nat} (h : 100 < i) : (K0.take i)[100]? = some (6, 5) := (List.getElem?_take_of_lt h).trans rfl
theorem K0t_101 {i : Nat} (h : 101 < i) : (K0.take i)[101]? = some (100, 8) := (List.getElem?_take_of_lt h).trans rfl
theorem K0t_102 {i : Nat} (h : 102 < i) : (K0.take i)[102]? = some (100, 8) := (List.getElem?_take_of_lt h).trans rfl
theorem K0t_103 {i : Nat} (h : 103 < i) : (K0.take i)[103]? = some (6, 5) := (List.getElem?_take_of_lt h).trans rfl
theorem K0t_104 {i : Nat} (h : 104 < i) : (K0.take i)[104]? = some (100, 8) := (List.getElem?_take_of_lt h).trans rfl
theorem K0t_105 {i : Nat} (h : 105 < i) : (K0.take i)[105]? = some (100, 8) := (List.getElem?_take_of_lt h).trans rfl
theorem K0t_106 {i : Nat} (h : 106 < i) : (K0.take i)[106]? = some (6, 5) := (List.getElem?_take_of_lt h).trans rfl
theorem K0t_107 {i : Nat} (h : 107 < i) : (K0.take i)[107]? = some (100, 8) := (List.getElem?_take_of_lt h).trans rfl
theorem K0t_108 {i : Nat} (h : 108 < i) : (K0.take i)[108]? = some (100, 8) := (List.getElem?_take_of_lt h).trans rfl
theorem K0t_109 {i : Nat} (h : 109 < i) : (K0.take i)[109]? = some (6, 5) := (List.getElem?_take_of_lt h).trans rfl
theorem K0t_110 {i : Nat} (h : 110 < i) : (K0.take i)[110]? = some (100, 8) := (List.getElem?_take_of_lt h).trans rfl
theorem K0t_111 {i : Nat} (h : 111 < i) : (K0.take i)[111]? = some (100, 8) := (List.getElem?_take_of_lt h).trans rfl
theorem K0t_112 {i : Nat} (h : 112 < i) : (K0.take i)[112]? = some (8, 6) := (List.getElem?_take_of_lt h).trans rfl
theorem K0t_113 {i : Nat} (h : 113 < i) : (K0.take i)[113]? = some (100, 2048) := (List.getElem?_take_of_lt h).trans rfl
theorem K0t_114 {i : Nat} (h : 114 < i) : (K0.take i)[114]? = some (100, 8) := (List.getElem?_take_of_lt h).trans rfl
theorem K0t_115 {i : Nat} (h : 115 < i) : (K0.take i)[115]? = some (100, 8) := (List.getElem?_take_of_lt h).trans rfl
theorem K0t_116 {i : Nat} (h : 116 < i) : (K0.take i)[116]? = some (100, 100) := (List.getElem?_take_of_lt h).trans rfl
theorem K0t_117 {i : Nat} (h : 117 < i) : (K0.take i)[117]? = some (100, 100) := (List.getElem?_take_of_lt h).trans rfl
theorem K0t_118 {i : Nat} (h : 118 < i) : (K0.take i)[118]? = some (12, 48) := (List.getElem?_take_of_lt h).trans rfl
theorem K0t_119 {i : Nat} (h : 119 < i) : (K0.take i)[119]? = some (101, 940) := (List.getElem?_take_of_lt h).trans rfl
theorem K0t_120 {i : Nat} (h : 120 < i) : (K0.take i)[120]? = some (100, 657) := (List.getElem?_take_of_lt h).trans rfl
theorem K0t_121 {i : Nat} (h : 121 < i) : (K0.take i)[121]? = some (100, 517) := (List.getElem?_take_of_lt h).trans rfl
theorem K0t_122 {i : Nat} (h : 122 < i) : (K0.take i)[122]? = some (100, 121) := (List.getElem?_take_of_lt h).trans rfl
theorem K0t_123 {i : Nat} (h : 123 < i) : (K0.take i)[123]? = some (103, 16) := (List.getElem?_take_of_lt h).trans rfl
theorem K0t_124 {i : Nat} (h : 124 < i) : (K0.take i)[124]? = some (103, 16) := (List.getElem?_take_of_lt h).trans rfl
theorem K0t_125 {i : Nat} (h : 125 < i) : (K0.take i)[125]? = some (100, 100) := (List.getElem?_take_of_lt h).trans rfl
theorem K0t_126 {i : Nat} (h : 126 < i) : (K0.take i)[126]? = some (100, 100) := (List.getElem?_take_of_lt h).trans rfl
theorem K0t_127 {i : Nat} (h : 127 < i) : (K0.take i)[127]? = some (100, 100) := (List.getElem?_take_of_lt h).trans rfl
theorem K0t_128 {i : Nat} (h : 128 < i) : (K0.take i)[128]? = some (100, 10000) := (List.getElem?_take_of_lt h).trans rfl
theorem K0t_129 {i : Nat} (h : 129 < i) : (K0.take i)[129]? = some (100, 10000) := (List.getElem?_take_of_lt h).trans rfl
theorem K0t_130 {i : Nat} (h : 130 < i) : (K0.take i)[130]? = some (101, 100) := (List.getElem?_take_of_lt h).trans rfl
theorem K0t_131 {i : Nat} (h : 131 < i) : (K0.take i)[131]? = some (100, 152) := (List.getElem?_take_of_lt h).trans rfl
theorem K0t_132 {i : Nat} (h : 132 < i) : (K0.take i)[132]? = some (100, 19) := (List.getElem?_take_of_lt h).trans rfl
theorem K0t_133 {i : Nat} (h : 133 < i) : (K0.take i)[133]? = some (100, 2048) := (List.getElem?_take_of_lt h).trans rfl
theorem K0t_134 {i : Nat} (h : 134 < i) : (K0.take i)[134]? = some (100, 8) := (List.getElem?_take_of_lt h).trans rfl
theorem K0t_135 {i : Nat} (h : 135 < i) : (K0.take i)[135]? = some (100, 100) := (List.getElem?_take_of_lt h).trans rfl
theorem K0t_136 {i : Nat} (h : 136 < i) : (K0.take i)[136]? = some (100, 6) := (List.getElem?_take_of_lt h).trans rfl
theorem K0t_137 {i : Nat} (h : 137 < i) : (K0.take i)[137]? = some (100, 19) := (List.getElem?_take_of_lt h).trans rfl
theorem K0t_138 {i : Nat} (h : 138 < i) : (K0.take i)[138]? = some (100, 1314) := (List.getElem?_take_of_lt h).trans rfl
theorem K0t_139 {i : Nat} (h : 139 < i) : (K0.take i)[139]? = some (103, 16) := (List.getElem?_take_of_lt h).trans rfl
theorem K0t_140 {i : Nat} (h : 140 < i) : (K0.take i)[140]? = some (102, 2) := (List.getElem?_take_of_lt h).trans rfl
theorem K0t_141 {i : Nat} (h : 141 < i) : (K0.take i)[141]? = some (103, 1) := (List.getElem?_take_of_lt h).trans rfl
set_option maxHeartbeats 1000000 in
theorem in_X7_init_2 {μ : Nat → Nat → Int} {R : Nat → Nat → Option Nat} (hz : ZrI 2 μ) (hr : ZrO 2 R) : Cl PT 66 [mR 1] (K0.take 2, μ, R, 2, 24) (fun r => r = (some none, (K0.take 3, μ, (m_set R 1 0 (some 2)), 3, 964))) := by
  refine ⟨_, PT_66, Nat.le_of_ble_eq_true rfl, ?_⟩
  show Rn PT none kX7_init 0 [some (mR 1)] [] (K0.take 2, μ, R, 2, 24) _
  refine gn_aload_n (k' := 1) rfl rfl rfl ?_
  refine rn_nat (k' := 2) (S' := []) rfl rfl rfl ?_
  refine gn_aload_n (k' := 3) rfl rfl rfl ?_
  refine gn_sipush (k' := 4) rfl rfl ?_
  refine gn_newarray (k' := 5) (i := 2) (n := 940) (K' := K0.take 3) (c' := 3) (s' := 964) rfl rfl rfl (by decide) rfl (fun j => hz 2 j (by decide)) rfl rfl rfl ?_
  have z1 := hz.up (i' := 3) (by decide)
  have o2 := hr.up (i' := 3) (by decide)
  refine gn_putR (k' := 6) rfl rfl (K0t_1 (by decide)) (by decide) rfl ?_
  have o3 := o2.s (b := 1) (j := 0) (v := some 2) (by decide)
  exact rn_vret rfl rfl
theorem in_X7_init_2_z {μ : Nat → Nat → Int} (hz : ZrI 2 μ) : ZrI 3 μ := (hz.up (i' := 3) (by decide))
theorem in_X7_init_2_o {R : Nat → Nat → Option Nat} (hr : ZrO 2 R) : ZrO 3 (m_set R 1 0 (some 2)) := ((hr.up (i' := 3) (by decide)).s (b := 1) (j := 0) (v := some 2) (by decide))
set_option maxHeartbeats 1000000 in
theorem in_X5_init_4 {μ : Nat → Nat → Int} {R : Nat → Nat → Option Nat} (hz : ZrI 4 μ) (hr : ZrO 4 R) : Cl PT 42 [mR 3, mR 1] (K0.take 4, μ, R, 4, 967) (fun r => r = (some none, (K0.take 5, (m_upd μ 4 (wst 78).2), (m_set (m_set R 3 1 (some 4)) 3 0 (some 1)), 5, 983))) := by
  refine ⟨_, PT_42, Nat.le_of_ble_eq_true rfl, ?_⟩
  show Rn PT none kX5_init 0 [some (mR 3), some (mR 1), none, none, none] [] (K0.take 4, μ, R, 4, 967) _
  refine gn_aload_n (k' := 1) rfl rfl rfl ?_
  refine rn_nat (k' := 2) (S' := []) rfl rfl rfl ?_
  refine gn_aload_n (k' := 3) rfl rfl rfl ?_
  refine gn_bipush (k' := 4) rfl rfl ?_
  refine gn_newarray (k' := 5) (i := 4) (n := 16) (K' := K0.take 5) (c' := 5) (s' := 983) rfl rfl rfl (by decide) rfl (fun j => hz 4 j (by decide)) rfl rfl rfl ?_
  have z1 := hz.up (i' := 5) (by decide)
  have o2 := hr.up (i' := 5) (by decide)
  refine gn_putR (k' := 6) rfl rfl (K0t_3 (by decide)) (by decide) rfl ?_
  have o3 := o2.s (b := 3) (j := 1) (v := some 4) (by decide)
  refine gn_aload_n (k' := 7) rfl rfl rfl ?_
  refine gn_aload_n (k' := 8) rfl rfl rfl ?_
  refine gn_putR (k' := 9) rfl rfl (K0t_3 (by decide)) (by decide) rfl ?_
  have o4 := o3.s (b := 3) (j := 0) (v := some 1) (by decide)
  refine gn_iconst (k' := 10) rfl rfl ?_
  refine gn_istore_n (k' := 11) (L' := [some (mR 3), some (mR 1), some (mI 0), none, none]) rfl rfl (Nat.le_of_ble_eq_true rfl) rfl ?_
  refine gn_iconst (k' := 12) rfl rfl ?_
  refine gn_istore_n (k' := 13) (L' := [some (mR 3), some (mR 1), some (mI 0), some (mI 0), none]) rfl rfl (Nat.le_of_ble_eq_true rfl) rfl ?_
  have hw := gl_words (μ := μ) (K := K0.take 5) (R := (m_set (m_set R 3 1 (some 4)) 3 0 (some 1))) (c := 5) (s := 983) (Q := fun r => r = (some none, (K0.take 5, (m_upd μ 4 (wst 78).2), (m_set (m_set R 3 1 (some 4)) 3 0 (some 1)), 5, 983))) (K0t_3 (by decide)) (K0t_4 (by decide)) rfl rfl 78 0 0 0 none rfl rfl rfl (.inl rfl)
  rw [show m_upd μ 4 (wst 0).2 = μ from words0 (fun j => hz 4 j (by decide))] at hw
  exact hw
theorem in_X5_init_4_z {μ : Nat → Nat → Int} (hz : ZrI 4 μ) : ZrI 5 (m_upd μ 4 (wst 78).2) := ((hz.up (i' := 5) (by decide)).u (b := 4) (f := (wst 78).2) (by decide))
theorem in_X5_init_4_o {R : Nat → Nat → Option Nat} (hr : ZrO 4 R) : ZrO 5 (m_set (m_set R 3 1 (some 4)) 3 0 (some 1)) := (((hr.up (i' := 5) (by decide)).s (b := 3) (j := 1) (v := some 4) (by decide)).s (b := 3) (j := 0) (v := some 1) (by decide))
set_option maxHeartbeats 1000000 in
theorem in_X3_empty_14 {μ : Nat → Nat → Int} {R : Nat → Nat → Option Nat} (hz : ZrI 14 μ) (hr : ZrO 14 R) (hr_6_1 : R 6 1 = some 8) (hr_6_2 : R 6 2 = some 9) (hr_6_3 : R 6 3 = some 10) (hy_8 : ∀ j, μ 8 j = 0) (hy_9 : ∀ j, μ 9 j = 0) (hy_10 : ∀ j, μ 10 j = 0) : Cl PT 27 [mR 6] (K0.take 14, μ, R, 14, 1522) (fun r => r = (some none, (K0.take 14, (m_set (m_set (m_set (m_set (m_set (m_set (m_set (m_set (m_set (m_set (m_set (m_upd (m_upd (m_upd μ 8 (fl (fun _ => (-1)) (fun _ => 0) 300)) 9 (fl (fun _ => 0) (fun _ => 0) 3)) 10 (fl (fun _ => (-1)) (fun _ => 0) 90)) 6 7 0) 6 8 0) 6 9 0) 6 10 1) 6 11 99) 6 12 0) 6 13 0) 6 14 (-1)) 6 15 0) 6 16 0) 6 17 0), R, 14, 1522))) := by
  refine ⟨_, PT_27, Nat.le_of_ble_eq_true rfl, ?_⟩
  show Rn PT none kX3_empty 0 [some (mR 6)] [] (K0.take 14, μ, R, 14, 1522) _
  refine gn_aload_n (k' := 1) rfl rfl rfl ?_
  refine gn_getR (k' := 2) rfl rfl (K0t_6 (by decide)) (by decide) rfl hr_6_1 ?_
  refine gn_iconst (k' := 3) rfl rfl ?_
  refine rn_callP (k' := 4) (y := 275) (vs := [mR 8, mI (-1)]) (S' := []) (v := none) rfl rfl rfl (gc_fill0 (K0t_8 (by decide)) (by decide) hy_8) ?_
  show Rn PT none kX3_empty 4 [some (mR 6)] [] _ _
  have z1 := hz.u (b := 8) (f := fl (fun _ => (-1)) (fun _ => 0) 300) (by decide)
  refine gn_aload_n (k' := 5) rfl rfl rfl ?_
  refine gn_getR (k' := 6) rfl rfl (K0t_6 (by decide)) (by decide) rfl hr_6_2 ?_
  refine gn_iconst (k' := 7) rfl rfl ?_
  refine rn_callP (k' := 8) (y := 275) (vs := [mR 9, mI 0]) (S' := []) (v := none) rfl rfl rfl (gc_fill0 (K0t_9 (by decide)) (by decide) hy_9) ?_
  show Rn PT none kX3_empty 8 [some (mR 6)] [] _ _
  have z2 := z1.u (b := 9) (f := fl (fun _ => 0) (fun _ => 0) 3) (by decide)
  refine gn_aload_n (k' := 9) rfl rfl rfl ?_
  refine gn_getR (k' := 10) rfl rfl (K0t_6 (by decide)) (by decide) rfl hr_6_3 ?_
  refine gn_iconst (k' := 11) rfl rfl ?_
  refine rn_callP (k' := 12) (y := 275) (vs := [mR 10, mI (-1)]) (S' := []) (v := none) rfl rfl rfl (gc_fill0 (K0t_10 (by decide)) (by decide) hy_10) ?_
  show Rn PT none kX3_empty 12 [some (mR 6)] [] _ _
  have z3 := z2.u (b := 10) (f := fl (fun _ => (-1)) (fun _ => 0) 90) (by decide)
  refine gn_aload_n (k' := 13) rfl rfl rfl ?_
  refine gn_iconst (k' := 14) rfl rfl ?_
  refine gn_putI (k' := 15) rfl rfl (K0t_6 (by decide)) (by decide) rfl ?_
  have z4 := z3.s (b := 6) (j := 7) (v := 0) (by decide)
  refine gn_aload_n (k' := 16) rfl rfl rfl ?_
  refine gn_iconst (k' := 17) rfl rfl ?_
  refine gn_putI (k' := 18) rfl rfl (K0t_6 (by decide)) (by decide) rfl ?_
  have z5 := z4.s (b := 6) (j := 8) (v := 0) (by decide)
  refine gn_aload_n (k' := 19) rfl rfl rfl ?_
  refine gn_iconst (k' := 20) rfl rfl ?_
  refine gn_putI (k' := 21) rfl rfl (K0t_6 (by decide)) (by decide) rfl ?_
  have z6 := z5.s (b := 6) (j := 9) (v := 0) (by decide)
  refine gn_aload_n (k' := 22) rfl rfl rfl ?_
  refine gn_iconst (k' := 23) rfl rfl ?_
  refine gn_putI (k' := 24) rfl rfl (K0t_6 (by decide)) (by decide) rfl ?_
  have z7 := z6.s (b := 6) (j := 10) (v := 1) (by decide)
  refine gn_aload_n (k' := 25) rfl rfl rfl ?_
  refine gn_bipush (k' := 26) rfl rfl ?_
  refine gn_putI (k' := 27) rfl rfl (K0t_6 (by decide)) (by decide) rfl ?_
  have z8 := z7.s (b := 6) (j := 11) (v := 99) (by decide)
  refine gn_aload_n (k' := 28) rfl rfl rfl ?_
  refine gn_iconst (k' := 29) rfl rfl ?_
  refine gn_putI (k' := 30) rfl rfl (K0t_6 (by decide)) (by decide) rfl ?_
  have z9 := z8.s (b := 6) (j := 12) (v := 0) (by decide)
  refine gn_aload_n (k' := 31) rfl rfl rfl ?_
  refine gn_iconst (k' := 32) rfl rfl ?_
  refine gn_putI (k' := 33) rfl rfl (K0t_6 (by decide)) (by decide) rfl ?_
  have z10 := z9.s (b := 6) (j := 13) (v := 0) (by decide)
  refine gn_aload_n (k' := 34) rfl rfl rfl ?_
  refine gn_iconst (k' := 35) rfl rfl ?_
  refine gn_putI (k' := 36) rfl rfl (K0t_6 (by decide)) (by decide) rfl ?_
  have z11 := z10.s (b := 6) (j := 14) (v := (-1)) (by decide)
  refine gn_aload_n (k' := 37) rfl rfl rfl ?_
  refine gn_iconst (k' := 38) rfl rfl ?_
  refine gn_putI (k' := 39) rfl rfl (K0t_6 (by decide)) (by decide) rfl ?_
  have z12 := z11.s (b := 6) (j := 15) (v := 0) (by decide)
  refine gn_aload_n (k' := 40) rfl rfl rfl ?_
  refine gn_iconst (k' := 41) rfl rfl ?_
  refine gn_putZ (k' := 42) rfl rfl (K0t_6 (by decide)) (by decide) rfl (.inl rfl) ?_
  have z13 := z12.s (b := 6) (j := 16) (v := 0) (by decide)
  refine gn_aload_n (k' := 43) rfl rfl rfl ?_
  refine gn_iconst (k' := 44) rfl rfl ?_
  refine gn_putZ (k' := 45) rfl rfl (K0t_6 (by decide)) (by decide) rfl (.inl rfl) ?_
  have z14 := z13.s (b := 6) (j := 17) (v := 0) (by decide)
  exact rn_vret rfl rfl
theorem in_X3_empty_14_z {μ : Nat → Nat → Int} (hz : ZrI 14 μ) : ZrI 14 (m_set (m_set (m_set (m_set (m_set (m_set (m_set (m_set (m_set (m_set (m_set (m_upd (m_upd (m_upd μ 8 (fl (fun _ => (-1)) (fun _ => 0) 300)) 9 (fl (fun _ => 0) (fun _ => 0) 3)) 10 (fl (fun _ => (-1)) (fun _ => 0) 90)) 6 7 0) 6 8 0) 6 9 0) 6 10 1) 6 11 99) 6 12 0) 6 13 0) 6 14 (-1)) 6 15 0) 6 16 0) 6 17 0) := (((((((((((((((hz.up (i' := 14) (by decide)).u (b := 8) (f := fl (fun _ => (-1)) (fun _ => 0) 300) (by decide)).u (b := 9) (f := fl (fun _ => 0) (fun _ => 0) 3) (by decide)).u (b := 10) (f := fl (fun _ => (-1)) (fun _ => 0) 90) (by decide)).s (b := 6) (j := 7) (v := 0) (by decide)).s (b := 6) (j := 8) (v := 0) (by decide)).s (b := 6) (j := 9) (v := 0) (by decide)).s (b := 6) (j := 10) (v := 1) (by decide)).s (b := 6) (j := 11) (v := 99) (by decide)).s (b := 6) (j := 12) (v := 0) (by decide)).s (b := 6) (j := 13) (v := 0) (by decide)).s (b := 6) (j := 14) (v := (-1)) (by decide)).s (b := 6) (j := 15) (v := 0) (by decide)).s (b := 6) (j := 16) (v := 0) (by decide)).s (b := 6) (j := 17) (v := 0) (by decide))
theorem in_X3_empty_14_o {R : Nat → Nat → Option Nat} (hr : ZrO 14 R) : ZrO 14 R := (hr.up (i' := 14) (by decide))
set_option maxHeartbeats 1000000 in
theorem in_X3_init_7 {μ : Nat → Nat → Int} {R : Nat → Nat → Option Nat} (hz : ZrI 7 μ) (hr : ZrO 7 R) : Cl PT 26 [mR 6] (K0.take 7, μ, R, 7, 1005) (fun r => r = (some none, (K0.take 14, (m_set (m_set (m_set (m_set (m_set (m_set (m_set (m_set (m_set (m_set (m_set (m_upd (m_upd (m_upd μ 8 (fl (fun _ => (-1)) (fun _ => 0) 300)) 9 (fl (fun _ => 0) (fun _ => 0) 3)) 10 (fl (fun _ => (-1)) (fun _ => 0) 90)) 6 7 0) 6 8 0) 6 9 0) 6 10 1) 6 11 99) 6 12 0) 6 13 0) 6 14 (-1)) 6 15 0) 6 16 0) 6 17 0), (m_set (m_set (m_set (m_set (m_set (m_set (m_set R 6 0 (some 7)) 6 1 (some 8)) 6 2 (some 9)) 6 3 (some 10)) 6 4 (some 11)) 6 5 (some 12)) 6 6 (some 13)), 14, 1522))) := by
  refine ⟨_, PT_26, Nat.le_of_ble_eq_true rfl, ?_⟩
  show Rn PT none kX3_init 0 [some (mR 6)] [] (K0.take 7, μ, R, 7, 1005) _
  refine gn_aload_n (k' := 1) rfl rfl rfl ?_
  refine rn_nat (k' := 2) (S' := []) rfl rfl rfl ?_
  refine gn_aload_n (k' := 3) rfl rfl rfl ?_
  refine gn_bipush (k' := 4) rfl rfl ?_
  refine gn_newarray (k' := 5) (i := 7) (n := 100) (K' := K0.take 8) (c' := 8) (s' := 1105) rfl rfl rfl (by decide) rfl (fun j => hz 7 j (by decide)) rfl rfl rfl ?_
  have z1 := hz.up (i' := 8) (by decide)
  have o2 := hr.up (i' := 8) (by decide)
  refine gn_putR (k' := 6) rfl rfl (K0t_6 (by decide)) (by decide) rfl ?_
  have o3 := o2.s (b := 6) (j := 0) (v := some 7) (by decide)
  refine gn_aload_n (k' := 7) rfl rfl rfl ?_
  refine gn_sipush (k' := 8) rfl rfl ?_
  refine gn_newarray (k' := 9) (i := 8) (n := 300) (K' := K0.take 9) (c' := 9) (s' := 1405) rfl rfl rfl (by decide) rfl (fun j => z1 8 j (by decide)) rfl rfl rfl ?_
  have z4 := z1.up (i' := 9) (by decide)
  have o5 := o3.up (i' := 9) (by decide)
  refine gn_putR (k' := 10) rfl rfl (K0t_6 (by decide)) (by decide) rfl ?_
  have o6 := o5.s (b := 6) (j := 1) (v := some 8) (by decide)
  refine gn_aload_n (k' := 11) rfl rfl rfl ?_
  refine gn_iconst (k' := 12) rfl rfl ?_
  refine gn_newarray (k' := 13) (i := 9) (n := 3) (K' := K0.take 10) (c' := 10) (s' := 1408) rfl rfl rfl (by decide) rfl (fun j => z4 9 j (by decide)) rfl rfl rfl ?_
  have z7 := z4.up (i' := 10) (by decide)
  have o8 := o6.up (i' := 10) (by decide)
  refine gn_putR (k' := 14) rfl rfl (K0t_6 (by decide)) (by decide) rfl ?_
  have o9 := o8.s (b := 6) (j := 2) (v := some 9) (by decide)
  refine gn_aload_n (k' := 15) rfl rfl rfl ?_
  refine gn_bipush (k' := 16) rfl rfl ?_
  refine gn_newarray (k' := 17) (i := 10) (n := 90) (K' := K0.take 11) (c' := 11) (s' := 1498) rfl rfl rfl (by decide) rfl (fun j => z7 10 j (by decide)) rfl rfl rfl ?_
  have z10 := z7.up (i' := 11) (by decide)
  have o11 := o9.up (i' := 11) (by decide)
  refine gn_putR (k' := 18) rfl rfl (K0t_6 (by decide)) (by decide) rfl ?_
  have o12 := o11.s (b := 6) (j := 3) (v := some 10) (by decide)
  refine gn_aload_n (k' := 19) rfl rfl rfl ?_
  refine gn_bipush (k' := 20) rfl rfl ?_
  refine gn_newarray (k' := 21) (i := 11) (n := 8) (K' := K0.take 12) (c' := 12) (s' := 1506) rfl rfl rfl (by decide) rfl (fun j => z10 11 j (by decide)) rfl rfl rfl ?_
  have z13 := z10.up (i' := 12) (by decide)
  have o14 := o12.up (i' := 12) (by decide)
  refine gn_putR (k' := 22) rfl rfl (K0t_6 (by decide)) (by decide) rfl ?_
  have o15 := o14.s (b := 6) (j := 4) (v := some 11) (by decide)
  refine gn_aload_n (k' := 23) rfl rfl rfl ?_
  refine gn_bipush (k' := 24) rfl rfl ?_
  refine gn_newarray (k' := 25) (i := 12) (n := 8) (K' := K0.take 13) (c' := 13) (s' := 1514) rfl rfl rfl (by decide) rfl (fun j => z13 12 j (by decide)) rfl rfl rfl ?_
  have z16 := z13.up (i' := 13) (by decide)
  have o17 := o15.up (i' := 13) (by decide)
  refine gn_putR (k' := 26) rfl rfl (K0t_6 (by decide)) (by decide) rfl ?_
  have o18 := o17.s (b := 6) (j := 5) (v := some 12) (by decide)
  refine gn_aload_n (k' := 27) rfl rfl rfl ?_
  refine gn_bipush (k' := 28) rfl rfl ?_
  refine gn_newarray (k' := 29) (i := 13) (n := 8) (K' := K0.take 14) (c' := 14) (s' := 1522) rfl rfl rfl (by decide) rfl (fun j => z16 13 j (by decide)) rfl rfl rfl ?_
  have z19 := z16.up (i' := 14) (by decide)
  have o20 := o18.up (i' := 14) (by decide)
  refine gn_putR (k' := 30) rfl rfl (K0t_6 (by decide)) (by decide) rfl ?_
  have o21 := o20.s (b := 6) (j := 6) (v := some 13) (by decide)
  refine gn_aload_n (k' := 31) rfl rfl rfl ?_
  refine rn_callP (k' := 32) (y := 27) (vs := [mR 6]) (S' := []) (v := none) rfl rfl rfl (in_X3_empty_14 z19 o21 rfl rfl rfl (fun j => hz 8 j (by decide)) (fun j => hz 9 j (by decide)) (fun j => hz 10 j (by decide))) ?_
  show Rn PT none kX3_init 32 [some (mR 6)] [] _ _
  have z22 := in_X3_empty_14_z z19
  have o23 := in_X3_empty_14_o o21
  exact rn_vret rfl rfl
theorem in_X3_init_7_z {μ : Nat → Nat → Int} (hz : ZrI 7 μ) : ZrI 14 (m_set (m_set (m_set (m_set (m_set (m_set (m_set (m_set (m_set (m_set (m_set (m_upd (m_upd (m_upd μ 8 (fl (fun _ => (-1)) (fun _ => 0) 300)) 9 (fl (fun _ => 0) (fun _ => 0) 3)) 10 (fl (fun _ => (-1)) (fun _ => 0) 90)) 6 7 0) 6 8 0) 6 9 0) 6 10 1) 6 11 99) 6 12 0) 6 13 0) 6 14 (-1)) 6 15 0) 6 16 0) 6 17 0) := (((((((((((((((hz.up (i' := 14) (by decide)).u (b := 8) (f := fl (fun _ => (-1)) (fun _ => 0) 300) (by decide)).u (b := 9) (f := fl (fun _ => 0) (fun _ => 0) 3) (by decide)).u (b := 10) (f := fl (fun _ => (-1)) (fun _ => 0) 90) (by decide)).s (b := 6) (j := 7) (v := 0) (by decide)).s (b := 6) (j := 8) (v := 0) (by decide)).s (b := 6) (j := 9) (v := 0) (by decide)).s (b := 6) (j := 10) (v := 1) (by decide)).s (b := 6) (j := 11) (v := 99) (by decide)).s (b := 6) (j := 12) (v := 0) (by decide)).s (b := 6) (j := 13) (v := 0) (by decide)).s (b := 6) (j := 14) (v := (-1)) (by decide)).s (b := 6) (j := 15) (v := 0) (by decide)).s (b := 6) (j := 16) (v := 0) (by decide)).s (b := 6) (j := 17) (v := 0) (by decide))
theorem in_X3_init_7_o {R : Nat → Nat → Option Nat} (hr : ZrO 7 R) : ZrO 14 (m_set (m_set (m_set (m_set (m_set (m_set (m_set R 6 0 (some 7)) 6 1 (some 8)) 6 2 (some 9)) 6 3 (some 10)) 6 4 (some 11)) 6 5 (some 12)) 6 6 (some 13)) := ((((((((hr.up (i' := 14) (by decide)).s (b := 6) (j := 0) (v := some 7) (by decide)).s (b := 6) (j := 1) (v := some 8) (by decide)).s (b := 6) (j := 2) (v := some 9) (by decide)).s (b := 6) (j := 3) (v := some 10) (by decide)).s (b := 6) (j := 4) (v := some 11) (by decide)).s (b := 6) (j := 5) (v := some 12) (by decide)).s (b := 6) (j := 6) (v := some 13) (by decide))
set_option maxHeartbeats 1000000 in
theorem in_X6_init_15 {μ : Nat → Nat → Int} {R : Nat → Nat → Option Nat} (hz : ZrI 15 μ) (hr : ZrO 15 R) : Cl PT 62 [mR 14] (K0.take 15, μ, R, 15, 1527) (fun r => r = (some none, (K0.take 17, (m_set μ 14 3 (-1)), (m_set (m_set R 14 1 (some 15)) 14 2 (some 16)), 17, 1543))) := by
  refine ⟨_, PT_62, Nat.le_of_ble_eq_true rfl, ?_⟩
  show Rn PT none kX6_init 0 [some (mR 14)] [] (K0.take 15, μ, R, 15, 1527) _
  refine gn_aload_n (k' := 1) rfl rfl rfl ?_
  refine rn_nat (k' := 2) (S' := []) rfl rfl rfl ?_
  refine gn_aload_n (k' := 3) rfl rfl rfl ?_
  refine gn_bipush (k' := 4) rfl rfl ?_
  refine gn_newarray (k' := 5) (i := 15) (n := 8) (K' := K0.take 16) (c' := 16) (s' := 1535) rfl rfl rfl (by decide) rfl (fun j => hz 15 j (by decide)) rfl rfl rfl ?_
  have z1 := hz.up (i' := 16) (by decide)
  have o2 := hr.up (i' := 16) (by decide)
  refine gn_putR (k' := 6) rfl rfl (K0t_14 (by decide)) (by decide) rfl ?_
  have o3 := o2.s (b := 14) (j := 1) (v := some 15) (by decide)
  refine gn_aload_n (k' := 7) rfl rfl rfl ?_
  refine gn_bipush (k' := 8) rfl rfl ?_
  refine gn_newarray (k' := 9) (i := 16) (n := 8) (K' := K0.take 17) (c' := 17) (s' := 1543) rfl rfl rfl (by decide) rfl (fun j => z1 16 j (by decide)) rfl rfl rfl ?_
  have z4 := z1.up (i' := 17) (by decide)
  have o5 := o3.up (i' := 17) (by decide)
  refine gn_putR (k' := 10) rfl rfl (K0t_14 (by decide)) (by decide) rfl ?_
  have o6 := o5.s (b := 14) (j := 2) (v := some 16) (by decide)
  refine gn_aload_n (k' := 11) rfl rfl rfl ?_
  refine gn_iconst (k' := 12) rfl rfl ?_
  refine gn_putI (k' := 13) rfl rfl (K0t_14 (by decide)) (by decide) rfl ?_
  have z7 := z4.s (b := 14) (j := 3) (v := (-1)) (by decide)
  exact rn_vret rfl rfl
theorem in_X6_init_15_z {μ : Nat → Nat → Int} (hz : ZrI 15 μ) : ZrI 17 (m_set μ 14 3 (-1)) := ((hz.up (i' := 17) (by decide)).s (b := 14) (j := 3) (v := (-1)) (by decide))
theorem in_X6_init_15_o {R : Nat → Nat → Option Nat} (hr : ZrO 15 R) : ZrO 17 (m_set (m_set R 14 1 (some 15)) 14 2 (some 16)) := (((hr.up (i' := 17) (by decide)).s (b := 14) (j := 1) (v := some 15) (by decide)).s (b := 14) (j := 2) (v := some 16) (by decide))
set_option maxHeartbeats 1000000 in
theorem in_X4_init_18 {μ : Nat → Nat → Int} {R : Nat → Nat → Option Nat} (hz : ZrI 18 μ) (hr : ZrO 18 R) : Cl PT 40 [mR 17] (K0.take 18, μ, R, 18, 1547) (fun r => r = (some none, (K0.take 21, μ, (m_set (m_set (m_set R 17 1 (some 18)) 17 2 (some 19)) 17 3 (some 20)), 21, 1637))) := by
  refine ⟨_, PT_40, Nat.le_of_ble_eq_true rfl, ?_⟩
  show Rn PT none kX4_init 0 [some (mR 17)] [] (K0.take 18, μ, R, 18, 1547) _
  refine gn_aload_n (k' := 1) rfl rfl rfl ?_
  refine rn_nat (k' := 2) (S' := []) rfl rfl rfl ?_
  refine gn_aload_n (k' := 3) rfl rfl rfl ?_
  refine gn_bipush (k' := 4) rfl rfl ?_
  refine gn_newarray (k' := 5) (i := 18) (n := 30) (K' := K0.take 19) (c' := 19) (s' := 1577) rfl rfl rfl (by decide) rfl (fun j => hz 18 j (by decide)) rfl rfl rfl ?_
  have z1 := hz.up (i' := 19) (by decide)
  have o2 := hr.up (i' := 19) (by decide)
  refine gn_putR (k' := 6) rfl rfl (K0t_17 (by decide)) (by decide) rfl ?_
  have o3 := o2.s (b := 17) (j := 1) (v := some 18) (by decide)
  refine gn_aload_n (k' := 7) rfl rfl rfl ?_
  refine gn_bipush (k' := 8) rfl rfl ?_
  refine gn_newarray (k' := 9) (i := 19) (n := 30) (K' := K0.take 20) (c' := 20) (s' := 1607) rfl rfl rfl (by decide) rfl (fun j => z1 19 j (by decide)) rfl rfl rfl ?_
  have z4 := z1.up (i' := 20) (by decide)
  have o5 := o3.up (i' := 20) (by decide)
  refine gn_putR (k' := 10) rfl rfl (K0t_17 (by decide)) (by decide) rfl ?_
  have o6 := o5.s (b := 17) (j := 2) (v := some 19) (by decide)
  refine gn_aload_n (k' := 11) rfl rfl rfl ?_
  refine gn_bipush (k' := 12) rfl rfl ?_
  refine gn_newarray (k' := 13) (i := 20) (n := 30) (K' := K0.take 21) (c' := 21) (s' := 1637) rfl rfl rfl (by decide) rfl (fun j => z4 20 j (by decide)) rfl rfl rfl ?_
  have z7 := z4.up (i' := 21) (by decide)
  have o8 := o6.up (i' := 21) (by decide)
  refine gn_putR (k' := 14) rfl rfl (K0t_17 (by decide)) (by decide) rfl ?_
  have o9 := o8.s (b := 17) (j := 3) (v := some 20) (by decide)
  exact rn_vret rfl rfl
theorem in_X4_init_18_z {μ : Nat → Nat → Int} (hz : ZrI 18 μ) : ZrI 21 μ := (hz.up (i' := 21) (by decide))
theorem in_X4_init_18_o {R : Nat → Nat → Option Nat} (hr : ZrO 18 R) : ZrO 21 (m_set (m_set (m_set R 17 1 (some 18)) 17 2 (some 19)) 17 3 (some 20)) := ((((hr.up (i' := 21) (by decide)).s (b := 17) (j := 1) (v := some 18) (by decide)).s (b := 17) (j := 2) (v := some 19) (by decide)).s (b := 17) (j := 3) (v := some 20) (by decide))
set_option maxHeartbeats 1000000 in
theorem in_X2_init_6 {μ : Nat → Nat → Int} {R : Nat → Nat → Option Nat} (hz : ZrI 6 μ) (hr : ZrO 6 R) : Cl PT 24 [mR 5] (K0.take 6, μ, R, 6, 987) (fun r => r = (some none, (K0.take 21, (m_set (m_set (m_set (m_set (m_set (m_set (m_set (m_set (m_set (m_set (m_set (m_set (m_upd (m_upd (m_upd μ 8 (fl (fun _ => (-1)) (fun _ => 0) 300)) 9 (fl (fun _ => 0) (fun _ => 0) 3)) 10 (fl (fun _ => (-1)) (fun _ => 0) 90)) 6 7 0) 6 8 0) 6 9 0) 6 10 1) 6 11 99) 6 12 0) 6 13 0) 6 14 (-1)) 6 15 0) 6 16 0) 6 17 0) 14 3 (-1)), (m_set (m_set (m_set (m_set (m_set (m_set (m_set (m_set (m_set (m_set (m_set (m_set (m_set (m_set (m_set R 6 0 (some 7)) 6 1 (some 8)) 6 2 (some 9)) 6 3 (some 10)) 6 4 (some 11)) 6 5 (some 12)) 6 6 (some 13)) 5 0 (some 6)) 14 1 (some 15)) 14 2 (some 16)) 5 1 (some 14)) 17 1 (some 18)) 17 2 (some 19)) 17 3 (some 20)) 5 2 (some 17)), 21, 1637))) := by
  refine ⟨_, PT_24, Nat.le_of_ble_eq_true rfl, ?_⟩
  show Rn PT none kX2_init 0 [some (mR 5)] [] (K0.take 6, μ, R, 6, 987) _
  refine gn_aload_n (k' := 1) rfl rfl rfl ?_
  refine rn_nat (k' := 2) (S' := []) rfl rfl rfl ?_
  refine gn_aload_n (k' := 3) rfl rfl rfl ?_
  refine gn_new (k' := 4) (i := 6) (n := 18) (K' := K0.take 7) (c' := 7) (s' := 1005) rfl rfl rfl rfl rfl (by decide) (fun j => hz 6 j (by decide)) (fun j => hr 6 j (by decide)) rfl rfl rfl ?_
  have z1 := hz.up (i' := 7) (by decide)
  have o2 := hr.up (i' := 7) (by decide)
  refine gn_dupR (k' := 5) rfl rfl ?_
  refine rn_callP (k' := 6) (y := 26) (vs := [mR 6]) (S' := [mR 6, mR 5]) (v := none) rfl rfl rfl (in_X3_init_7 z1 o2 ) ?_
  show Rn PT none kX2_init 6 [some (mR 5)] [mR 6, mR 5] _ _
  have z3 := in_X3_init_7_z z1
  have o4 := in_X3_init_7_o o2
  refine gn_putR (k' := 7) rfl rfl (K0t_5 (by decide)) (by decide) rfl ?_
  have o5 := o4.s (b := 5) (j := 0) (v := some 6) (by decide)
  refine gn_aload_n (k' := 8) rfl rfl rfl ?_
  refine gn_new (k' := 9) (i := 14) (n := 5) (K' := K0.take 15) (c' := 15) (s' := 1527) rfl rfl rfl rfl rfl (by decide) (fun j => z3 14 j (by decide)) (fun j => o5 14 j (by decide)) rfl rfl rfl ?_
  have z6 := z3.up (i' := 15) (by decide)
  have o7 := o5.up (i' := 15) (by decide)
  refine gn_dupR (k' := 10) rfl rfl ?_
  refine rn_callP (k' := 11) (y := 62) (vs := [mR 14]) (S' := [mR 14, mR 5]) (v := none) rfl rfl rfl (in_X6_init_15 z6 o7 ) ?_
  show Rn PT none kX2_init 11 [some (mR 5)] [mR 14, mR 5] _ _
  have z8 := in_X6_init_15_z z6
  have o9 := in_X6_init_15_o o7
  refine gn_putR (k' := 12) rfl rfl (K0t_5 (by decide)) (by decide) rfl ?_
  have o10 := o9.s (b := 5) (j := 1) (v := some 14) (by decide)
  refine gn_aload_n (k' := 13) rfl rfl rfl ?_
  refine gn_new (k' := 14) (i := 17) (n := 4) (K' := K0.take 18) (c' := 18) (s' := 1547) rfl rfl rfl rfl rfl (by decide) (fun j => z8 17 j (by decide)) (fun j => o10 17 j (by decide)) rfl rfl rfl ?_
  have z11 := z8.up (i' := 18) (by decide)
  have o12 := o10.up (i' := 18) (by decide)
  refine gn_dupR (k' := 15) rfl rfl ?_
  refine rn_callP (k' := 16) (y := 40) (vs := [mR 17]) (S' := [mR 17, mR 5]) (v := none) rfl rfl rfl (in_X4_init_18 z11 o12 ) ?_
  show Rn PT none kX2_init 16 [some (mR 5)] [mR 17, mR 5] _ _
  have z13 := in_X4_init_18_z z11
  have o14 := in_X4_init_18_o o12
  refine gn_putR (k' := 17) rfl rfl (K0t_5 (by decide)) (by decide) rfl ?_
  have o15 := o14.s (b := 5) (j := 2) (v := some 17) (by decide)
  exact rn_vret rfl rfl
theorem in_X2_init_6_z {μ : Nat → Nat → Int} (hz : ZrI 6 μ) : ZrI 21 (m_set (m_set (m_set (m_set (m_set (m_set (m_set (m_set (m_set (m_set (m_set (m_set (m_upd (m_upd (m_upd μ 8 (fl (fun _ => (-1)) (fun _ => 0) 300)) 9 (fl (fun _ => 0) (fun _ => 0) 3)) 10 (fl (fun _ => (-1)) (fun _ => 0) 90)) 6 7 0) 6 8 0) 6 9 0) 6 10 1) 6 11 99) 6 12 0) 6 13 0) 6 14 (-1)) 6 15 0) 6 16 0) 6 17 0) 14 3 (-1)) := ((((((((((((((((hz.up (i' := 21) (by decide)).u (b := 8) (f := fl (fun _ => (-1)) (fun _ => 0) 300) (by decide)).u (b := 9) (f := fl (fun _ => 0) (fun _ => 0) 3) (by decide)).u (b := 10) (f := fl (fun _ => (-1)) (fun _ => 0) 90) (by decide)).s (b := 6) (j := 7) (v := 0) (by decide)).s (b := 6) (j := 8) (v := 0) (by decide)).s (b := 6) (j := 9) (v := 0) (by decide)).s (b := 6) (j := 10) (v := 1) (by decide)).s (b := 6) (j := 11) (v := 99) (by decide)).s (b := 6) (j := 12) (v := 0) (by decide)).s (b := 6) (j := 13) (v := 0) (by decide)).s (b := 6) (j := 14) (v := (-1)) (by decide)).s (b := 6) (j := 15) (v := 0) (by decide)).s (b := 6) (j := 16) (v := 0) (by decide)).s (b := 6) (j := 17) (v := 0) (by decide)).s (b := 14) (j := 3) (v := (-1)) (by decide))
theorem in_X2_init_6_o {R : Nat → Nat → Option Nat} (hr : ZrO 6 R) : ZrO 21 (m_set (m_set (m_set (m_set (m_set (m_set (m_set (m_set (m_set (m_set (m_set (m_set (m_set (m_set (m_set R 6 0 (some 7)) 6 1 (some 8)) 6 2 (some 9)) 6 3 (some 10)) 6 4 (some 11)) 6 5 (some 12)) 6 6 (some 13)) 5 0 (some 6)) 14 1 (some 15)) 14 2 (some 16)) 5 1 (some 14)) 17 1 (some 18)) 17 2 (some 19)) 17 3 (some 20)) 5 2 (some 17)) := ((((((((((((((((hr.up (i' := 21) (by decide)).s (b := 6) (j := 0) (v := some 7) (by decide)).s (b := 6) (j := 1) (v := some 8) (by decide)).s (b := 6) (j := 2) (v := some 9) (by decide)).s (b := 6) (j := 3) (v := some 10) (by decide)).s (b := 6) (j := 4) (v := some 11) (by decide)).s (b := 6) (j := 5) (v := some 12) (by decide)).s (b := 6) (j := 6) (v := some 13) (by decide)).s (b := 5) (j := 0) (v := some 6) (by decide)).s (b := 14) (j := 1) (v := some 15) (by decide)).s (b := 14) (j := 2) (v := some 16) (by decide)).s (b := 5) (j := 1) (v := some 14) (by decide)).s (b := 17) (j := 1) (v := some 18) (by decide)).s (b := 17) (j := 2) (v := some 19) (by decide)).s (b := 17) (j := 3) (v := some 20) (by decide)).s (b := 5) (j := 2) (v := some 17) (by decide))
set_option maxHeartbeats 1000000 in
theorem in_X3_empty_31 {μ : Nat → Nat → Int} {R : Nat → Nat → Option Nat} (hz : ZrI 31 μ) (hr : ZrO 31 R) (hr_23_1 : R 23 1 = some 25) (hr_23_2 : R 23 2 = some 26) (hr_23_3 : R 23 3 = some 27) (hy_25 : ∀ j, μ 25 j = 0) (hy_26 : ∀ j, μ 26 j = 0) (hy_27 : ∀ j, μ 27 j = 0) : Cl PT 27 [mR 23] (K0.take 31, μ, R, 31, 2178) (fun r => r = (some none, (K0.take 31, (m_set (m_set (m_set (m_set (m_set (m_set (m_set (m_set (m_set (m_set (m_set (m_upd (m_upd (m_upd μ 25 (fl (fun _ => (-1)) (fun _ => 0) 300)) 26 (fl (fun _ => 0) (fun _ => 0) 3)) 27 (fl (fun _ => (-1)) (fun _ => 0) 90)) 23 7 0) 23 8 0) 23 9 0) 23 10 1) 23 11 99) 23 12 0) 23 13 0) 23 14 (-1)) 23 15 0) 23 16 0) 23 17 0), R, 31, 2178))) := by
  refine ⟨_, PT_27, Nat.le_of_ble_eq_true rfl, ?_⟩
  show Rn PT none kX3_empty 0 [some (mR 23)] [] (K0.take 31, μ, R, 31, 2178) _
  refine gn_aload_n (k' := 1) rfl rfl rfl ?_
  refine gn_getR (k' := 2) rfl rfl (K0t_23 (by decide)) (by decide) rfl hr_23_1 ?_
  refine gn_iconst (k' := 3) rfl rfl ?_
  refine rn_callP (k' := 4) (y := 275) (vs := [mR 25, mI (-1)]) (S' := []) (v := none) rfl rfl rfl (gc_fill0 (K0t_25 (by decide)) (by decide) hy_25) ?_
  show Rn PT none kX3_empty 4 [some (mR 23)] [] _ _
  have z1 := hz.u (b := 25) (f := fl (fun _ => (-1)) (fun _ => 0) 300) (by decide)
  refine gn_aload_n (k' := 5) rfl rfl rfl ?_
  refine gn_getR (k' := 6) rfl rfl (K0t_23 (by decide)) (by decide) rfl hr_23_2 ?_
  refine gn_iconst (k' := 7) rfl rfl ?_
  refine rn_callP (k' := 8) (y := 275) (vs := [mR 26, mI 0]) (S' := []) (v := none) rfl rfl rfl (gc_fill0 (K0t_26 (by decide)) (by decide) hy_26) ?_
  show Rn PT none kX3_empty 8 [some (mR 23)] [] _ _
  have z2 := z1.u (b := 26) (f := fl (fun _ => 0) (fun _ => 0) 3) (by decide)
  refine gn_aload_n (k' := 9) rfl rfl rfl ?_
  refine gn_getR (k' := 10) rfl rfl (K0t_23 (by decide)) (by decide) rfl hr_23_3 ?_
  refine gn_iconst (k' := 11) rfl rfl ?_
  refine rn_callP (k' := 12) (y := 275) (vs := [mR 27, mI (-1)]) (S' := []) (v := none) rfl rfl rfl (gc_fill0 (K0t_27 (by decide)) (by decide) hy_27) ?_
  show Rn PT none kX3_empty 12 [some (mR 23)] [] _ _
  have z3 := z2.u (b := 27) (f := fl (fun _ => (-1)) (fun _ => 0) 90) (by decide)
  refine gn_aload_n (k' := 13) rfl rfl rfl ?_
  refine gn_iconst (k' := 14) rfl rfl ?_
  refine gn_putI (k' := 15) rfl rfl (K0t_23 (by decide)) (by decide) rfl ?_
  have z4 := z3.s (b := 23) (j := 7) (v := 0) (by decide)
  refine gn_aload_n (k' := 16) rfl rfl rfl ?_
  refine gn_iconst (k' := 17) rfl rfl ?_
  refine gn_putI (k' := 18) rfl rfl (K0t_23 (by decide)) (by decide) rfl ?_
  have z5 := z4.s (b := 23) (j := 8) (v := 0) (by decide)
  refine gn_aload_n (k' := 19) rfl rfl rfl ?_
  refine gn_iconst (k' := 20) rfl rfl ?_
  refine gn_putI (k' := 21) rfl rfl (K0t_23 (by decide)) (by decide) rfl ?_
  have z6 := z5.s (b := 23) (j := 9) (v := 0) (by decide)
  refine gn_aload_n (k' := 22) rfl rfl rfl ?_
  refine gn_iconst (k' := 23) rfl rfl ?_
  refine gn_putI (k' := 24) rfl rfl (K0t_23 (by decide)) (by decide) rfl ?_
  have z7 := z6.s (b := 23) (j := 10) (v := 1) (by decide)
  refine gn_aload_n (k' := 25) rfl rfl rfl ?_
  refine gn_bipush (k' := 26) rfl rfl ?_
  refine gn_putI (k' := 27) rfl rfl (K0t_23 (by decide)) (by decide) rfl ?_
  have z8 := z7.s (b := 23) (j := 11) (v := 99) (by decide)
  refine gn_aload_n (k' := 28) rfl rfl rfl ?_
  refine gn_iconst (k' := 29) rfl rfl ?_
  refine gn_putI (k' := 30) rfl rfl (K0t_23 (by decide)) (by decide) rfl ?_
  have z9 := z8.s (b := 23) (j := 12) (v := 0) (by decide)
  refine gn_aload_n (k' := 31) rfl rfl rfl ?_
  refine gn_iconst (k' := 32) rfl rfl ?_
  refine gn_putI (k' := 33) rfl rfl (K0t_23 (by decide)) (by decide) rfl ?_
  have z10 := z9.s (b := 23) (j := 13) (v := 0) (by decide)
  refine gn_aload_n (k' := 34) rfl rfl rfl ?_
  refine gn_iconst (k' := 35) rfl rfl ?_
  refine gn_putI (k' := 36) rfl rfl (K0t_23 (by decide)) (by decide) rfl ?_
  have z11 := z10.s (b := 23) (j := 14) (v := (-1)) (by decide)
  refine gn_aload_n (k' := 37) rfl rfl rfl ?_
  refine gn_iconst (k' := 38) rfl rfl ?_
  refine gn_putI (k' := 39) rfl rfl (K0t_23 (by decide)) (by decide) rfl ?_
  have z12 := z11.s (b := 23) (j := 15) (v := 0) (by decide)
  refine gn_aload_n (k' := 40) rfl rfl rfl ?_
  refine gn_iconst (k' := 41) rfl rfl ?_
  refine gn_putZ (k' := 42) rfl rfl (K0t_23 (by decide)) (by decide) rfl (.inl rfl) ?_
  have z13 := z12.s (b := 23) (j := 16) (v := 0) (by decide)
  refine gn_aload_n (k' := 43) rfl rfl rfl ?_
  refine gn_iconst (k' := 44) rfl rfl ?_
  refine gn_putZ (k' := 45) rfl rfl (K0t_23 (by decide)) (by decide) rfl (.inl rfl) ?_
  have z14 := z13.s (b := 23) (j := 17) (v := 0) (by decide)
  exact rn_vret rfl rfl
theorem in_X3_empty_31_z {μ : Nat → Nat → Int} (hz : ZrI 31 μ) : ZrI 31 (m_set (m_set (m_set (m_set (m_set (m_set (m_set (m_set (m_set (m_set (m_set (m_upd (m_upd (m_upd μ 25 (fl (fun _ => (-1)) (fun _ => 0) 300)) 26 (fl (fun _ => 0) (fun _ => 0) 3)) 27 (fl (fun _ => (-1)) (fun _ => 0) 90)) 23 7 0) 23 8 0) 23 9 0) 23 10 1) 23 11 99) 23 12 0) 23 13 0) 23 14 (-1)) 23 15 0) 23 16 0) 23 17 0) := (((((((((((((((hz.up (i' := 31) (by decide)).u (b := 25) (f := fl (fun _ => (-1)) (fun _ => 0) 300) (by decide)).u (b := 26) (f := fl (fun _ => 0) (fun _ => 0) 3) (by decide)).u (b := 27) (f := fl (fun _ => (-1)) (fun _ => 0) 90) (by decide)).s (b := 23) (j := 7) (v := 0) (by decide)).s (b := 23) (j := 8) (v := 0) (by decide)).s (b := 23) (j := 9) (v := 0) (by decide)).s (b := 23) (j := 10) (v := 1) (by decide)).s (b := 23) (j := 11) (v := 99) (by decide)).s (b := 23) (j := 12) (v := 0) (by decide)).s (b := 23) (j := 13) (v := 0) (by decide)).s (b := 23) (j := 14) (v := (-1)) (by decide)).s (b := 23) (j := 15) (v := 0) (by decide)).s (b := 23) (j := 16) (v := 0) (by decide)).s (b := 23) (j := 17) (v := 0) (by decide))
theorem in_X3_empty_31_o {R : Nat → Nat → Option Nat} (hr : ZrO 31 R) : ZrO 31 R := (hr.up (i' := 31) (by decide))
set_option maxHeartbeats 1000000 in
theorem in_X3_init_24 {μ : Nat → Nat → Int} {R : Nat → Nat → Option Nat} (hz : ZrI 24 μ) (hr : ZrO 24 R) : Cl PT 26 [mR 23] (K0.take 24, μ, R, 24, 1661) (fun r => r = (some none, (K0.take 31, (m_set (m_set (m_set (m_set (m_set (m_set (m_set (m_set (m_set (m_set (m_set (m_upd (m_upd (m_upd μ 25 (fl (fun _ => (-1)) (fun _ => 0) 300)) 26 (fl (fun _ => 0) (fun _ => 0) 3)) 27 (fl (fun _ => (-1)) (fun _ => 0) 90)) 23 7 0) 23 8 0) 23 9 0) 23 10 1) 23 11 99) 23 12 0) 23 13 0) 23 14 (-1)) 23 15 0) 23 16 0) 23 17 0), (m_set (m_set (m_set (m_set (m_set (m_set (m_set R 23 0 (some 24)) 23 1 (some 25)) 23 2 (some 26)) 23 3 (some 27)) 23 4 (some 28)) 23 5 (some 29)) 23 6 (some 30)), 31, 2178))) := by
  refine ⟨_, PT_26, Nat.le_of_ble_eq_true rfl, ?_⟩
  show Rn PT none kX3_init 0 [some (mR 23)] [] (K0.take 24, μ, R, 24, 1661) _
  refine gn_aload_n (k' := 1) rfl rfl rfl ?_
  refine rn_nat (k' := 2) (S' := []) rfl rfl rfl ?_
  refine gn_aload_n (k' := 3) rfl rfl rfl ?_
  refine gn_bipush (k' := 4) rfl rfl ?_
  refine gn_newarray (k' := 5) (i := 24) (n := 100) (K' := K0.take 25) (c' := 25) (s' := 1761) rfl rfl rfl (by decide) rfl (fun j => hz 24 j (by decide)) rfl rfl rfl ?_
  have z1 := hz.up (i' := 25) (by decide)
  have o2 := hr.up (i' := 25) (by decide)
  refine gn_putR (k' := 6) rfl rfl (K0t_23 (by decide)) (by decide) rfl ?_
  have o3 := o2.s (b := 23) (j := 0) (v := some 24) (by decide)
  refine gn_aload_n (k' := 7) rfl rfl rfl ?_
  refine gn_sipush (k' := 8) rfl rfl ?_
  refine gn_newarray (k' := 9) (i := 25) (n := 300) (K' := K0.take 26) (c' := 26) (s' := 2061) rfl rfl rfl (by decide) rfl (fun j => z1 25 j (by decide)) rfl rfl rfl ?_
  have z4 := z1.up (i' := 26) (by decide)
  have o5 := o3.up (i' := 26) (by decide)
  refine gn_putR (k' := 10) rfl rfl (K0t_23 (by decide)) (by decide) rfl ?_
  have o6 := o5.s (b := 23) (j := 1) (v := some 25) (by decide)
  refine gn_aload_n (k' := 11) rfl rfl rfl ?_
  refine gn_iconst (k' := 12) rfl rfl ?_
  refine gn_newarray (k' := 13) (i := 26) (n := 3) (K' := K0.take 27) (c' := 27) (s' := 2064) rfl rfl rfl (by decide) rfl (fun j => z4 26 j (by decide)) rfl rfl rfl ?_
  have z7 := z4.up (i' := 27) (by decide)
  have o8 := o6.up (i' := 27) (by decide)
  refine gn_putR (k' := 14) rfl rfl (K0t_23 (by decide)) (by decide) rfl ?_
  have o9 := o8.s (b := 23) (j := 2) (v := some 26) (by decide)
  refine gn_aload_n (k' := 15) rfl rfl rfl ?_
  refine gn_bipush (k' := 16) rfl rfl ?_
  refine gn_newarray (k' := 17) (i := 27) (n := 90) (K' := K0.take 28) (c' := 28) (s' := 2154) rfl rfl rfl (by decide) rfl (fun j => z7 27 j (by decide)) rfl rfl rfl ?_
  have z10 := z7.up (i' := 28) (by decide)
  have o11 := o9.up (i' := 28) (by decide)
  refine gn_putR (k' := 18) rfl rfl (K0t_23 (by decide)) (by decide) rfl ?_
  have o12 := o11.s (b := 23) (j := 3) (v := some 27) (by decide)
  refine gn_aload_n (k' := 19) rfl rfl rfl ?_
  refine gn_bipush (k' := 20) rfl rfl ?_
  refine gn_newarray (k' := 21) (i := 28) (n := 8) (K' := K0.take 29) (c' := 29) (s' := 2162) rfl rfl rfl (by decide) rfl (fun j => z10 28 j (by decide)) rfl rfl rfl ?_
  have z13 := z10.up (i' := 29) (by decide)
  have o14 := o12.up (i' := 29) (by decide)
  refine gn_putR (k' := 22) rfl rfl (K0t_23 (by decide)) (by decide) rfl ?_
  have o15 := o14.s (b := 23) (j := 4) (v := some 28) (by decide)
  refine gn_aload_n (k' := 23) rfl rfl rfl ?_
  refine gn_bipush (k' := 24) rfl rfl ?_
  refine gn_newarray (k' := 25) (i := 29) (n := 8) (K' := K0.take 30) (c' := 30) (s' := 2170) rfl rfl rfl (by decide) rfl (fun j => z13 29 j (by decide)) rfl rfl rfl ?_
  have z16 := z13.up (i' := 30) (by decide)
  have o17 := o15.up (i' := 30) (by decide)
  refine gn_putR (k' := 26) rfl rfl (K0t_23 (by decide)) (by decide) rfl ?_
  have o18 := o17.s (b := 23) (j := 5) (v := some 29) (by decide)
  refine gn_aload_n (k' := 27) rfl rfl rfl ?_
  refine gn_bipush (k' := 28) rfl rfl ?_
  refine gn_newarray (k' := 29) (i := 30) (n := 8) (K' := K0.take 31) (c' := 31) (s' := 2178) rfl rfl rfl (by decide) rfl (fun j => z16 30 j (by decide)) rfl rfl rfl ?_
  have z19 := z16.up (i' := 31) (by decide)
  have o20 := o18.up (i' := 31) (by decide)
  refine gn_putR (k' := 30) rfl rfl (K0t_23 (by decide)) (by decide) rfl ?_
  have o21 := o20.s (b := 23) (j := 6) (v := some 30) (by decide)
  refine gn_aload_n (k' := 31) rfl rfl rfl ?_
  refine rn_callP (k' := 32) (y := 27) (vs := [mR 23]) (S' := []) (v := none) rfl rfl rfl (in_X3_empty_31 z19 o21 rfl rfl rfl (fun j => hz 25 j (by decide)) (fun j => hz 26 j (by decide)) (fun j => hz 27 j (by decide))) ?_
  show Rn PT none kX3_init 32 [some (mR 23)] [] _ _
  have z22 := in_X3_empty_31_z z19
  have o23 := in_X3_empty_31_o o21
  exact rn_vret rfl rfl
theorem in_X3_init_24_z {μ : Nat → Nat → Int} (hz : ZrI 24 μ) : ZrI 31 (m_set (m_set (m_set (m_set (m_set (m_set (m_set (m_set (m_set (m_set (m_set (m_upd (m_upd (m_upd μ 25 (fl (fun _ => (-1)) (fun _ => 0) 300)) 26 (fl (fun _ => 0) (fun _ => 0) 3)) 27 (fl (fun _ => (-1)) (fun _ => 0) 90)) 23 7 0) 23 8 0) 23 9 0) 23 10 1) 23 11 99) 23 12 0) 23 13 0) 23 14 (-1)) 23 15 0) 23 16 0) 23 17 0) := (((((((((((((((hz.up (i' := 31) (by decide)).u (b := 25) (f := fl (fun _ => (-1)) (fun _ => 0) 300) (by decide)).u (b := 26) (f := fl (fun _ => 0) (fun _ => 0) 3) (by decide)).u (b := 27) (f := fl (fun _ => (-1)) (fun _ => 0) 90) (by decide)).s (b := 23) (j := 7) (v := 0) (by decide)).s (b := 23) (j := 8) (v := 0) (by decide)).s (b := 23) (j := 9) (v := 0) (by decide)).s (b := 23) (j := 10) (v := 1) (by decide)).s (b := 23) (j := 11) (v := 99) (by decide)).s (b := 23) (j := 12) (v := 0) (by decide)).s (b := 23) (j := 13) (v := 0) (by decide)).s (b := 23) (j := 14) (v := (-1)) (by decide)).s (b := 23) (j := 15) (v := 0) (by decide)).s (b := 23) (j := 16) (v := 0) (by decide)).s (b := 23) (j := 17) (v := 0) (by decide))
theorem in_X3_init_24_o {R : Nat → Nat → Option Nat} (hr : ZrO 24 R) : ZrO 31 (m_set (m_set (m_set (m_set (m_set (m_set (m_set R 23 0 (some 24)) 23 1 (some 25)) 23 2 (some 26)) 23 3 (some 27)) 23 4 (some 28)) 23 5 (some 29)) 23 6 (some 30)) := ((((((((hr.up (i' := 31) (by decide)).s (b := 23) (j := 0) (v := some 24) (by decide)).s (b := 23) (j := 1) (v := some 25) (by decide)).s (b := 23) (j := 2) (v := some 26) (by decide)).s (b := 23) (j := 3) (v := some 27) (by decide)).s (b := 23) (j := 4) (v := some 28) (by decide)).s (b := 23) (j := 5) (v := some 29) (by decide)).s (b := 23) (j := 6) (v := some 30) (by decide))
set_option maxHeartbeats 1000000 in
theorem in_X6_init_32 {μ : Nat → Nat → Int} {R : Nat → Nat → Option Nat} (hz : ZrI 32 μ) (hr : ZrO 32 R) : Cl PT 62 [mR 31] (K0.take 32, μ, R, 32, 2183) (fun r => r = (some none, (K0.take 34, (m_set μ 31 3 (-1)), (m_set (m_set R 31 1 (some 32)) 31 2 (some 33)), 34, 2199))) := by
  refine ⟨_, PT_62, Nat.le_of_ble_eq_true rfl, ?_⟩
  show Rn PT none kX6_init 0 [some (mR 31)] [] (K0.take 32, μ, R, 32, 2183) _
  refine gn_aload_n (k' := 1) rfl rfl rfl ?_
  refine rn_nat (k' := 2) (S' := []) rfl rfl rfl ?_
  refine gn_aload_n (k' := 3) rfl rfl rfl ?_
  refine gn_bipush (k' := 4) rfl rfl ?_
  refine gn_newarray (k' := 5) (i := 32) (n := 8) (K' := K0.take 33) (c' := 33) (s' := 2191) rfl rfl rfl (by decide) rfl (fun j => hz 32 j (by decide)) rfl rfl rfl ?_
  have z1 := hz.up (i' := 33) (by decide)
  have o2 := hr.up (i' := 33) (by decide)
  refine gn_putR (k' := 6) rfl rfl (K0t_31 (by decide)) (by decide) rfl ?_
  have o3 := o2.s (b := 31) (j := 1) (v := some 32) (by decide)
  refine gn_aload_n (k' := 7) rfl rfl rfl ?_
  refine gn_bipush (k' := 8) rfl rfl ?_
  refine gn_newarray (k' := 9) (i := 33) (n := 8) (K' := K0.take 34) (c' := 34) (s' := 2199) rfl rfl rfl (by decide) rfl (fun j => z1 33 j (by decide)) rfl rfl rfl ?_
  have z4 := z1.up (i' := 34) (by decide)
  have o5 := o3.up (i' := 34) (by decide)
  refine gn_putR (k' := 10) rfl rfl (K0t_31 (by decide)) (by decide) rfl ?_
  have o6 := o5.s (b := 31) (j := 2) (v := some 33) (by decide)
  refine gn_aload_n (k' := 11) rfl rfl rfl ?_
  refine gn_iconst (k' := 12) rfl rfl ?_
  refine gn_putI (k' := 13) rfl rfl (K0t_31 (by decide)) (by decide) rfl ?_
  have z7 := z4.s (b := 31) (j := 3) (v := (-1)) (by decide)
  exact rn_vret rfl rfl
theorem in_X6_init_32_z {μ : Nat → Nat → Int} (hz : ZrI 32 μ) : ZrI 34 (m_set μ 31 3 (-1)) := ((hz.up (i' := 34) (by decide)).s (b := 31) (j := 3) (v := (-1)) (by decide))
theorem in_X6_init_32_o {R : Nat → Nat → Option Nat} (hr : ZrO 32 R) : ZrO 34 (m_set (m_set R 31 1 (some 32)) 31 2 (some 33)) := (((hr.up (i' := 34) (by decide)).s (b := 31) (j := 1) (v := some 32) (by decide)).s (b := 31) (j := 2) (v := some 33) (by decide))
set_option maxHeartbeats 1000000 in
theorem in_X4_init_35 {μ : Nat → Nat → Int} {R : Nat → Nat → Option Nat} (hz : ZrI 35 μ) (hr : ZrO 35 R) : Cl PT 40 [mR 34] (K0.take 35, μ, R, 35, 2203) (fun r => r = (some none, (K0.take 38, μ, (m_set (m_set (m_set R 34 1 (some 35)) 34 2 (some 36)) 34 3 (some 37)), 38, 2293))) := by
  refine ⟨_, PT_40, Nat.le_of_ble_eq_true rfl, ?_⟩
  show Rn PT none kX4_init 0 [some (mR 34)] [] (K0.take 35, μ, R, 35, 2203) _
  refine gn_aload_n (k' := 1) rfl rfl rfl ?_
  refine rn_nat (k' := 2) (S' := []) rfl rfl rfl ?_
  refine gn_aload_n (k' := 3) rfl rfl rfl ?_
  refine gn_bipush (k' := 4) rfl rfl ?_
  refine gn_newarray (k' := 5) (i := 35) (n := 30) (K' := K0.take 36) (c' := 36) (s' := 2233) rfl rfl rfl (by decide) rfl (fun j => hz 35 j (by decide)) rfl rfl rfl ?_
  have z1 := hz.up (i' := 36) (by decide)
  have o2 := hr.up (i' := 36) (by decide)
  refine gn_putR (k' := 6) rfl rfl (K0t_34 (by decide)) (by decide) rfl ?_
  have o3 := o2.s (b := 34) (j := 1) (v := some 35) (by decide)
  refine gn_aload_n (k' := 7) rfl rfl rfl ?_
  refine gn_bipush (k' := 8) rfl rfl ?_
  refine gn_newarray (k' := 9) (i := 36) (n := 30) (K' := K0.take 37) (c' := 37) (s' := 2263) rfl rfl rfl (by decide) rfl (fun j => z1 36 j (by decide)) rfl rfl rfl ?_
  have z4 := z1.up (i' := 37) (by decide)
  have o5 := o3.up (i' := 37) (by decide)
  refine gn_putR (k' := 10) rfl rfl (K0t_34 (by decide)) (by decide) rfl ?_
  have o6 := o5.s (b := 34) (j := 2) (v := some 36) (by decide)
  refine gn_aload_n (k' := 11) rfl rfl rfl ?_
  refine gn_bipush (k' := 12) rfl rfl ?_
  refine gn_newarray (k' := 13) (i := 37) (n := 30) (K' := K0.take 38) (c' := 38) (s' := 2293) rfl rfl rfl (by decide) rfl (fun j => z4 37 j (by decide)) rfl rfl rfl ?_
  have z7 := z4.up (i' := 38) (by decide)
  have o8 := o6.up (i' := 38) (by decide)
  refine gn_putR (k' := 14) rfl rfl (K0t_34 (by decide)) (by decide) rfl ?_
  have o9 := o8.s (b := 34) (j := 3) (v := some 37) (by decide)
  exact rn_vret rfl rfl
theorem in_X4_init_35_z {μ : Nat → Nat → Int} (hz : ZrI 35 μ) : ZrI 38 μ := (hz.up (i' := 38) (by decide))
theorem in_X4_init_35_o {R : Nat → Nat → Option Nat} (hr : ZrO 35 R) : ZrO 38 (m_set (m_set (m_set R 34 1 (some 35)) 34 2 (some 36)) 34 3 (some 37)) := ((((hr.up (i' := 38) (by decide)).s (b := 34) (j := 1) (v := some 35) (by decide)).s (b := 34) (j := 2) (v := some 36) (by decide)).s (b := 34) (j := 3) (v := some 37) (by decide))
set_option maxHeartbeats 1000000 in
theorem in_X2_init_23 {μ : Nat → Nat → Int} {R : Nat → Nat → Option Nat} (hz : ZrI 23 μ) (hr : ZrO 23 R) : Cl PT 24 [mR 22] (K0.take 23, μ, R, 23, 1643) (fun r => r = (some none, (K0.take 38, (m_set (m_set (m_set (m_set (m_set (m_set (m_set (m_set (m_set (m_set (m_set (m_set (m_upd (m_upd (m_upd μ 25 (fl (fun _ => (-1)) (fun _ => 0) 300)) 26 (fl (fun _ => 0) (fun _ => 0) 3)) 27 (fl (fun _ => (-1)) (fun _ => 0) 90)) 23 7 0) 23 8 0) 23 9 0) 23 10 1) 23 11 99) 23 12 0) 23 13 0) 23 14 (-1)) 23 15 0) 23 16 0) 23 17 0) 31 3 (-1)), (m_set (m_set (m_set (m_set (m_set (m_set (m_set (m_set (m_set (m_set (m_set (m_set (m_set (m_set (m_set R 23 0 (some 24)) 23 1 (some 25)) 23 2 (some 26)) 23 3 (some 27)) 23 4 (some 28)) 23 5 (some 29)) 23 6 (some 30)) 22 0 (some 23)) 31 1 (some 32)) 31 2 (some 33)) 22 1 (some 31)) 34 1 (some 35)) 34 2 (some 36)) 34 3 (some 37)) 22 2 (some 34)), 38, 2293))) := by
  refine ⟨_, PT_24, Nat.le_of_ble_eq_true rfl, ?_⟩
  show Rn PT none kX2_init 0 [some (mR 22)] [] (K0.take 23, μ, R, 23, 1643) _
  refine gn_aload_n (k' := 1) rfl rfl rfl ?_
  refine rn_nat (k' := 2) (S' := []) rfl rfl rfl ?_
  refine gn_aload_n (k' := 3) rfl rfl rfl ?_
  refine gn_new (k' := 4) (i := 23) (n := 18) (K' := K0.take 24) (c' := 24) (s' := 1661) rfl rfl rfl rfl rfl (by decide) (fun j => hz 23 j (by decide)) (fun j => hr 23 j (by decide)) rfl rfl rfl ?_
  have z1 := hz.up (i' := 24) (by decide)
  have o2 := hr.up (i' := 24) (by decide)
  refine gn_dupR (k' := 5) rfl rfl ?_
  refine rn_callP (k' := 6) (y := 26) (vs := [mR 23]) (S' := [mR 23, mR 22]) (v := none) rfl rfl rfl (in_X3_init_24 z1 o2 ) ?_
  show Rn PT none kX2_init 6 [some (mR 22)] [mR 23, mR 22] _ _
  have z3 := in_X3_init_24_z z1
  have o4 := in_X3_init_24_o o2
  refine gn_putR (k' := 7) rfl rfl (K0t_22 (by decide)) (by decide) rfl ?_
  have o5 := o4.s (b := 22) (j := 0) (v := some 23) (by decide)
  refine gn_aload_n (k' := 8) rfl rfl rfl ?_
  refine gn_new (k' := 9) (i := 31) (n := 5) (K' := K0.take 32) (c' := 32) (s' := 2183) rfl rfl rfl rfl rfl (by decide) (fun j => z3 31 j (by decide)) (fun j => o5 31 j (by decide)) rfl rfl rfl ?_
  have z6 := z3.up (i' := 32) (by decide)
  have o7 := o5.up (i' := 32) (by decide)
  refine gn_dupR (k' := 10) rfl rfl ?_
  refine rn_callP (k' := 11) (y := 62) (vs := [mR 31]) (S' := [mR 31, mR 22]) (v := none) rfl rfl rfl (in_X6_init_32 z6 o7 ) ?_
  show Rn PT none kX2_init 11 [some (mR 22)] [mR 31, mR 22] _ _
  have z8 := in_X6_init_32_z z6
  have o9 := in_X6_init_32_o o7
  refine gn_putR (k' := 12) rfl rfl (K0t_22 (by decide)) (by decide) rfl ?_
  have o10 := o9.s (b := 22) (j := 1) (v := some 31) (by decide)
  refine gn_aload_n (k' := 13) rfl rfl rfl ?_
  refine gn_new (k' := 14) (i := 34) (n := 4) (K' := K0.take 35) (c' := 35) (s' := 2203) rfl rfl rfl rfl rfl (by decide) (fun j => z8 34 j (by decide)) (fun j => o10 34 j (by decide)) rfl rfl rfl ?_
  have z11 := z8.up (i' := 35) (by decide)
  have o12 := o10.up (i' := 35) (by decide)
  refine gn_dupR (k' := 15) rfl rfl ?_
  refine rn_callP (k' := 16) (y := 40) (vs := [mR 34]) (S' := [mR 34, mR 22]) (v := none) rfl rfl rfl (in_X4_init_35 z11 o12 ) ?_
  show Rn PT none kX2_init 16 [some (mR 22)] [mR 34, mR 22] _ _
  have z13 := in_X4_init_35_z z11
  have o14 := in_X4_init_35_o o12
  refine gn_putR (k' := 17) rfl rfl (K0t_22 (by decide)) (by decide) rfl ?_
  have o15 := o14.s (b := 22) (j := 2) (v := some 34) (by decide)
  exact rn_vret rfl rfl
theorem in_X2_init_23_z {μ : Nat → Nat → Int} (hz : ZrI 23 μ) : ZrI 38 (m_set (m_set (m_set (m_set (m_set (m_set (m_set (m_set (m_set (m_set (m_set (m_set (m_upd (m_upd (m_upd μ 25 (fl (fun _ => (-1)) (fun _ => 0) 300)) 26 (fl (fun _ => 0) (fun _ => 0) 3)) 27 (fl (fun _ => (-1)) (fun _ => 0) 90)) 23 7 0) 23 8 0) 23 9 0) 23 10 1) 23 11 99) 23 12 0) 23 13 0) 23 14 (-1)) 23 15 0) 23 16 0) 23 17 0) 31 3 (-1)) := ((((((((((((((((hz.up (i' := 38) (by decide)).u (b := 25) (f := fl (fun _ => (-1)) (fun _ => 0) 300) (by decide)).u (b := 26) (f := fl (fun _ => 0) (fun _ => 0) 3) (by decide)).u (b := 27) (f := fl (fun _ => (-1)) (fun _ => 0) 90) (by decide)).s (b := 23) (j := 7) (v := 0) (by decide)).s (b := 23) (j := 8) (v := 0) (by decide)).s (b := 23) (j := 9) (v := 0) (by decide)).s (b := 23) (j := 10) (v := 1) (by decide)).s (b := 23) (j := 11) (v := 99) (by decide)).s (b := 23) (j := 12) (v := 0) (by decide)).s (b := 23) (j := 13) (v := 0) (by decide)).s (b := 23) (j := 14) (v := (-1)) (by decide)).s (b := 23) (j := 15) (v := 0) (by decide)).s (b := 23) (j := 16) (v := 0) (by decide)).s (b := 23) (j := 17) (v := 0) (by decide)).s (b := 31) (j := 3) (v := (-1)) (by decide))
theorem in_X2_init_23_o {R : Nat → Nat → Option Nat} (hr : ZrO 23 R) : ZrO 38 (m_set (m_set (m_set (m_set (m_set (m_set (m_set (m_set (m_set (m_set (m_set (m_set (m_set (m_set (m_set R 23 0 (some 24)) 23 1 (some 25)) 23 2 (some 26)) 23 3 (some 27)) 23 4 (some 28)) 23 5 (some 29)) 23 6 (some 30)) 22 0 (some 23)) 31 1 (some 32)) 31 2 (some 33)) 22 1 (some 31)) 34 1 (some 35)) 34 2 (some 36)) 34 3 (some 37)) 22 2 (some 34)) := ((((((((((((((((hr.up (i' := 38) (by decide)).s (b := 23) (j := 0) (v := some 24) (by decide)).s (b := 23) (j := 1) (v := some 25) (by decide)).s (b := 23) (j := 2) (v := some 26) (by decide)).s (b := 23) (j := 3) (v := some 27) (by decide)).s (b := 23) (j := 4) (v := some 28) (by decide)).s (b := 23) (j := 5) (v := some 29) (by decide)).s (b := 23) (j := 6) (v := some 30) (by decide)).s (b := 22) (j := 0) (v := some 23) (by decide)).s (b := 31) (j := 1) (v := some 32) (by decide)).s (b := 31) (j := 2) (v := some 33) (by decide)).s (b := 22) (j := 1) (v := some 31) (by decide)).s (b := 34) (j := 1) (v := some 35) (by decide)).s (b := 34) (j := 2) (v := some 36) (by decide)).s (b := 34) (j := 3) (v := some 37) (by decide)).s (b := 22) (j := 2) (v := some 34) (by decide))
set_option maxHeartbeats 1000000 in
theorem in_X3_empty_47 {μ : Nat → Nat → Int} {R : Nat → Nat → Option Nat} (hz : ZrI 47 μ) (hr : ZrO 47 R) (hr_39_1 : R 39 1 = some 41) (hr_39_2 : R 39 2 = some 42) (hr_39_3 : R 39 3 = some 43) (hy_41 : ∀ j, μ 41 j = 0) (hy_42 : ∀ j, μ 42 j = 0) (hy_43 : ∀ j, μ 43 j = 0) : Cl PT 27 [mR 39] (K0.take 47, μ, R, 47, 2832) (fun r => r = (some none, (K0.take 47, (m_set (m_set (m_set (m_set (m_set (m_set (m_set (m_set (m_set (m_set (m_set (m_upd (m_upd (m_upd μ 41 (fl (fun _ => (-1)) (fun _ => 0) 300)) 42 (fl (fun _ => 0) (fun _ => 0) 3)) 43 (fl (fun _ => (-1)) (fun _ => 0) 90)) 39 7 0) 39 8 0) 39 9 0) 39 10 1) 39 11 99) 39 12 0) 39 13 0) 39 14 (-1)) 39 15 0) 39 16 0) 39 17 0), R, 47, 2832))) := by
  refine ⟨_, PT_27, Nat.le_of_ble_eq_true rfl, ?_⟩
  show Rn PT none kX3_empty 0 [some (mR 39)] [] (K0.take 47, μ, R, 47, 2832) _
  refine gn_aload_n (k' := 1) rfl rfl rfl ?_
  refine gn_getR (k' := 2) rfl rfl (K0t_39 (by decide)) (by decide) rfl hr_39_1 ?_
  refine gn_iconst (k' := 3) rfl rfl ?_
  refine rn_callP (k' := 4) (y := 275) (vs := [mR 41, mI (-1)]) (S' := []) (v := none) rfl rfl rfl (gc_fill0 (K0t_41 (by decide)) (by decide) hy_41) ?_
  show Rn PT none kX3_empty 4 [some (mR 39)] [] _ _
  have z1 := hz.u (b := 41) (f := fl (fun _ => (-1)) (fun _ => 0) 300) (by decide)
  refine gn_aload_n (k' := 5) rfl rfl rfl ?_
  refine gn_getR (k' := 6) rfl rfl (K0t_39 (by decide)) (by decide) rfl hr_39_2 ?_
  refine gn_iconst (k' := 7) rfl rfl ?_
  refine rn_callP (k' := 8) (y := 275) (vs := [mR 42, mI 0]) (S' := []) (v := none) rfl rfl rfl (gc_fill0 (K0t_42 (by decide)) (by decide) hy_42) ?_
  show Rn PT none kX3_empty 8 [some (mR 39)] [] _ _
  have z2 := z1.u (b := 42) (f := fl (fun _ => 0) (fun _ => 0) 3) (by decide)
  refine gn_aload_n (k' := 9) rfl rfl rfl ?_
  refine gn_getR (k' := 10) rfl rfl (K0t_39 (by decide)) (by decide) rfl hr_39_3 ?_
  refine gn_iconst (k' := 11) rfl rfl ?_
  refine rn_callP (k' := 12) (y := 275) (vs := [mR 43, mI (-1)]) (S' := []) (v := none) rfl rfl rfl (gc_fill0 (K0t_43 (by decide)) (by decide) hy_43) ?_
  show Rn PT none kX3_empty 12 [some (mR 39)] [] _ _
  have z3 := z2.u (b := 43) (f := fl (fun _ => (-1)) (fun _ => 0) 90) (by decide)
  refine gn_aload_n (k' := 13) rfl rfl rfl ?_
  refine gn_iconst (k' := 14) rfl rfl ?_
  refine gn_putI (k' := 15) rfl rfl (K0t_39 (by decide)) (by decide) rfl ?_
  have z4 := z3.s (b := 39) (j := 7) (v := 0) (by decide)
  refine gn_aload_n (k' := 16) rfl rfl rfl ?_
  refine gn_iconst (k' := 17) rfl rfl ?_
  refine gn_putI (k' := 18) rfl rfl (K0t_39 (by decide)) (by decide) rfl ?_
  have z5 := z4.s (b := 39) (j := 8) (v := 0) (by decide)
  refine gn_aload_n (k' := 19) rfl rfl rfl ?_
  refine gn_iconst (k' := 20) rfl rfl ?_
  refine gn_putI (k' := 21) rfl rfl (K0t_39 (by decide)) (by decide) rfl ?_
  have z6 := z5.s (b := 39) (j := 9) (v := 0) (by decide)
  refine gn_aload_n (k' := 22) rfl rfl rfl ?_
  refine gn_iconst (k' := 23) rfl rfl ?_
  refine gn_putI (k' := 24) rfl rfl (K0t_39 (by decide)) (by decide) rfl ?_
  have z7 := z6.s (b := 39) (j := 10) (v := 1) (by decide)
  refine gn_aload_n (k' := 25) rfl rfl rfl ?_
  refine gn_bipush (k' := 26) rfl rfl ?_
  refine gn_putI (k' := 27) rfl rfl (K0t_39 (by decide)) (by decide) rfl ?_
  have z8 := z7.s (b := 39) (j := 11) (v := 99) (by decide)
  refine gn_aload_n (k' := 28) rfl rfl rfl ?_
  refine gn_iconst (k' := 29) rfl rfl ?_
  refine gn_putI (k' := 30) rfl rfl (K0t_39 (by decide)) (by decide) rfl ?_
  have z9 := z8.s (b := 39) (j := 12) (v := 0) (by decide)
  refine gn_aload_n (k' := 31) rfl rfl rfl ?_
  refine gn_iconst (k' := 32) rfl rfl ?_
  refine gn_putI (k' := 33) rfl rfl (K0t_39 (by decide)) (by decide) rfl ?_
  have z10 := z9.s (b := 39) (j := 13) (v := 0) (by decide)
  refine gn_aload_n (k' := 34) rfl rfl rfl ?_
  refine gn_iconst (k' := 35) rfl rfl ?_
  refine gn_putI (k' := 36) rfl rfl (K0t_39 (by decide)) (by decide) rfl ?_
  have z11 := z10.s (b := 39) (j := 14) (v := (-1)) (by decide)
  refine gn_aload_n (k' := 37) rfl rfl rfl ?_
  refine gn_iconst (k' := 38) rfl rfl ?_
  refine gn_putI (k' := 39) rfl rfl (K0t_39 (by decide)) (by decide) rfl ?_
  have z12 := z11.s (b := 39) (j := 15) (v := 0) (by decide)
  refine gn_aload_n (k' := 40) rfl rfl rfl ?_
  refine gn_iconst (k' := 41) rfl rfl ?_
  refine gn_putZ (k' := 42) rfl rfl (K0t_39 (by decide)) (by decide) rfl (.inl rfl) ?_
  have z13 := z12.s (b := 39) (j := 16) (v := 0) (by decide)
  refine gn_aload_n (k' := 43) rfl rfl rfl ?_
  refine gn_iconst (k' := 44) rfl rfl ?_
  refine gn_putZ (k' := 45) rfl rfl (K0t_39 (by decide)) (by decide) rfl (.inl rfl) ?_
  have z14 := z13.s (b := 39) (j := 17) (v := 0) (by decide)
  exact rn_vret rfl rfl
theorem in_X3_empty_47_z {μ : Nat → Nat → Int} (hz : ZrI 47 μ) : ZrI 47 (m_set (m_set (m_set (m_set (m_set (m_set (m_set (m_set (m_set (m_set (m_set (m_upd (m_upd (m_upd μ 41 (fl (fun _ => (-1)) (fun _ => 0) 300)) 42 (fl (fun _ => 0) (fun _ => 0) 3)) 43 (fl (fun _ => (-1)) (fun _ => 0) 90)) 39 7 0) 39 8 0) 39 9 0) 39 10 1) 39 11 99) 39 12 0) 39 13 0) 39 14 (-1)) 39 15 0) 39 16 0) 39 17 0) := (((((((((((((((hz.up (i' := 47) (by decide)).u (b := 41) (f := fl (fun _ => (-1)) (fun _ => 0) 300) (by decide)).u (b := 42) (f := fl (fun _ => 0) (fun _ => 0) 3) (by decide)).u (b := 43) (f := fl (fun _ => (-1)) (fun _ => 0) 90) (by decide)).s (b := 39) (j := 7) (v := 0) (by decide)).s (b := 39) (j := 8) (v := 0) (by decide)).s (b := 39) (j := 9) (v := 0) (by decide)).s (b := 39) (j := 10) (v := 1) (by decide)).s (b := 39) (j := 11) (v := 99) (by decide)).s (b := 39) (j := 12) (v := 0) (by decide)).s (b := 39) (j := 13) (v := 0) (by decide)).s (b := 39) (j := 14) (v := (-1)) (by decide)).s (b := 39) (j := 15) (v := 0) (by decide)).s (b := 39) (j := 16) (v := 0) (by decide)).s (b := 39) (j := 17) (v := 0) (by decide))
theorem in_X3_empty_47_o {R : Nat → Nat → Option Nat} (hr : ZrO 47 R) : ZrO 47 R := (hr.up (i' := 47) (by decide))
set_option maxHeartbeats 1000000 in
theorem in_X3_init_40 {μ : Nat → Nat → Int} {R : Nat → Nat → Option Nat} (hz : ZrI 40 μ) (hr : ZrO 40 R) : Cl PT 26 [mR 39] (K0.take 40, μ, R, 40, 2315) (fun r => r = (some none, (K0.take 47, (m_set (m_set (m_set (m_set (m_set (m_set (m_set (m_set (m_set (m_set (m_set (m_upd (m_upd (m_upd μ 41 (fl (fun _ => (-1)) (fun _ => 0) 300)) 42 (fl (fun _ => 0) (fun _ => 0) 3)) 43 (fl (fun _ => (-1)) (fun _ => 0) 90)) 39 7 0) 39 8 0) 39 9 0) 39 10 1) 39 11 99) 39 12 0) 39 13 0) 39 14 (-1)) 39 15 0) 39 16 0) 39 17 0), (m_set (m_set (m_set (m_set (m_set (m_set (m_set R 39 0 (some 40)) 39 1 (some 41)) 39 2 (some 42)) 39 3 (some 43)) 39 4 (some 44)) 39 5 (some 45)) 39 6 (some 46)), 47, 2832))) := by
  refine ⟨_, PT_26, Nat.le_of_ble_eq_true rfl, ?_⟩
  show Rn PT none kX3_init 0 [some (mR 39)] [] (K0.take 40, μ, R, 40, 2315) _
  refine gn_aload_n (k' := 1) rfl rfl rfl ?_
  refine rn_nat (k' := 2) (S' := []) rfl rfl rfl ?_
  refine gn_aload_n (k' := 3) rfl rfl rfl ?_
  refine gn_bipush (k' := 4) rfl rfl ?_
  refine gn_newarray (k' := 5) (i := 40) (n := 100) (K' := K0.take 41) (c' := 41) (s' := 2415) rfl rfl rfl (by decide) rfl (fun j => hz 40 j (by decide)) rfl rfl rfl ?_
  have z1 := hz.up (i' := 41) (by decide)
  have o2 := hr.up (i' := 41) (by decide)
  refine gn_putR (k' := 6) rfl rfl (K0t_39 (by decide)) (by decide) rfl ?_
  have o3 := o2.s (b := 39) (j := 0) (v := some 40) (by decide)
  refine gn_aload_n (k' := 7) rfl rfl rfl ?_
  refine gn_sipush (k' := 8) rfl rfl ?_
  refine gn_newarray (k' := 9) (i := 41) (n := 300) (K' := K0.take 42) (c' := 42) (s' := 2715) rfl rfl rfl (by decide) rfl (fun j => z1 41 j (by decide)) rfl rfl rfl ?_
  have z4 := z1.up (i' := 42) (by decide)
  have o5 := o3.up (i' := 42) (by decide)
  refine gn_putR (k' := 10) rfl rfl (K0t_39 (by decide)) (by decide) rfl ?_
  have o6 := o5.s (b := 39) (j := 1) (v := some 41) (by decide)
  refine gn_aload_n (k' := 11) rfl rfl rfl ?_
  refine gn_iconst (k' := 12) rfl rfl ?_
  refine gn_newarray (k' := 13) (i := 42) (n := 3) (K' := K0.take 43) (c' := 43) (s' := 2718) rfl rfl rfl (by decide) rfl (fun j => z4 42 j (by decide)) rfl rfl rfl ?_
  have z7 := z4.up (i' := 43) (by decide)
  have o8 := o6.up (i' := 43) (by decide)
  refine gn_putR (k' := 14) rfl rfl (K0t_39 (by decide)) (by decide) rfl ?_
  have o9 := o8.s (b := 39) (j := 2) (v := some 42) (by decide)
  refine gn_aload_n (k' := 15) rfl rfl rfl ?_
  refine gn_bipush (k' := 16) rfl rfl ?_
  refine gn_newarray (k' := 17) (i := 43) (n := 90) (K' := K0.take 44) (c' := 44) (s' := 2808) rfl rfl rfl (by decide) rfl (fun j => z7 43 j (by decide)) rfl rfl rfl ?_
  have z10 := z7.up (i' := 44) (by decide)
  have o11 := o9.up (i' := 44) (by decide)
  refine gn_putR (k' := 18) rfl rfl (K0t_39 (by decide)) (by decide) rfl ?_
  have o12 := o11.s (b := 39) (j := 3) (v := some 43) (by decide)
  refine gn_aload_n (k' := 19) rfl rfl rfl ?_
  refine gn_bipush (k' := 20) rfl rfl ?_
  refine gn_newarray (k' := 21) (i := 44) (n := 8) (K' := K0.take 45) (c' := 45) (s' := 2816) rfl rfl rfl (by decide) rfl (fun j => z10 44 j (by decide)) rfl rfl rfl ?_
  have z13 := z10.up (i' := 45) (by decide)
  have o14 := o12.up (i' := 45) (by decide)
  refine gn_putR (k' := 22) rfl rfl (K0t_39 (by decide)) (by decide) rfl ?_
  have o15 := o14.s (b := 39) (j := 4) (v := some 44) (by decide)
  refine gn_aload_n (k' := 23) rfl rfl rfl ?_
  refine gn_bipush (k' := 24) rfl rfl ?_
  refine gn_newarray (k' := 25) (i := 45) (n := 8) (K' := K0.take 46) (c' := 46) (s' := 2824) rfl rfl rfl (by decide) rfl (fun j => z13 45 j (by decide)) rfl rfl rfl ?_
  have z16 := z13.up (i' := 46) (by decide)
  have o17 := o15.up (i' := 46) (by decide)
  refine gn_putR (k' := 26) rfl rfl (K0t_39 (by decide)) (by decide) rfl ?_
  have o18 := o17.s (b := 39) (j := 5) (v := some 45) (by decide)
  refine gn_aload_n (k' := 27) rfl rfl rfl ?_
  refine gn_bipush (k' := 28) rfl rfl ?_
  refine gn_newarray (k' := 29) (i := 46) (n := 8) (K' := K0.take 47) (c' := 47) (s' := 2832) rfl rfl rfl (by decide) rfl (fun j => z16 46 j (by decide)) rfl rfl rfl ?_
  have z19 := z16.up (i' := 47) (by decide)
  have o20 := o18.up (i' := 47) (by decide)
  refine gn_putR (k' := 30) rfl rfl (K0t_39 (by decide)) (by decide) rfl ?_
  have o21 := o20.s (b := 39) (j := 6) (v := some 46) (by decide)
  refine gn_aload_n (k' := 31) rfl rfl rfl ?_
  refine rn_callP (k' := 32) (y := 27) (vs := [mR 39]) (S' := []) (v := none) rfl rfl rfl (in_X3_empty_47 z19 o21 rfl rfl rfl (fun j => hz 41 j (by decide)) (fun j => hz 42 j (by decide)) (fun j => hz 43 j (by decide))) ?_
  show Rn PT none kX3_init 32 [some (mR 39)] [] _ _
  have z22 := in_X3_empty_47_z z19
  have o23 := in_X3_empty_47_o o21
  exact rn_vret rfl rfl
theorem in_X3_init_40_z {μ : Nat → Nat → Int} (hz : ZrI 40 μ) : ZrI 47 (m_set (m_set (m_set (m_set (m_set (m_set (m_set (m_set (m_set (m_set (m_set (m_upd (m_upd (m_upd μ 41 (fl (fun _ => (-1)) (fun _ => 0) 300)) 42 (fl (fun _ => 0) (fun _ => 0) 3)) 43 (fl (fun _ => (-1)) (fun _ => 0) 90)) 39 7 0) 39 8 0) 39 9 0) 39 10 1) 39 11 99) 39 12 0) 39 13 0) 39 14 (-1)) 39 15 0) 39 16 0) 39 17 0) := (((((((((((((((hz.up (i' := 47) (by decide)).u (b := 41) (f := fl (fun _ => (-1)) (fun _ => 0) 300) (by decide)).u (b := 42) (f := fl (fun _ => 0) (fun _ => 0) 3) (by decide)).u (b := 43) (f := fl (fun _ => (-1)) (fun _ => 0) 90) (by decide)).s (b := 39) (j := 7) (v := 0) (by decide)).s (b := 39) (j := 8) (v := 0) (by decide)).s (b := 39) (j := 9) (v := 0) (by decide)).s (b := 39) (j := 10) (v := 1) (by decide)).s (b := 39) (j := 11) (v := 99) (by decide)).s (b := 39) (j := 12) (v := 0) (by decide)).s (b := 39) (j := 13) (v := 0) (by decide)).s (b := 39) (j := 14) (v := (-1)) (by decide)).s (b := 39) (j := 15) (v := 0) (by decide)).s (b := 39) (j := 16) (v := 0) (by decide)).s (b := 39) (j := 17) (v := 0) (by decide))
theorem in_X3_init_40_o {R : Nat → Nat → Option Nat} (hr : ZrO 40 R) : ZrO 47 (m_set (m_set (m_set (m_set (m_set (m_set (m_set R 39 0 (some 40)) 39 1 (some 41)) 39 2 (some 42)) 39 3 (some 43)) 39 4 (some 44)) 39 5 (some 45)) 39 6 (some 46)) := ((((((((hr.up (i' := 47) (by decide)).s (b := 39) (j := 0) (v := some 40) (by decide)).s (b := 39) (j := 1) (v := some 41) (by decide)).s (b := 39) (j := 2) (v := some 42) (by decide)).s (b := 39) (j := 3) (v := some 43) (by decide)).s (b := 39) (j := 4) (v := some 44) (by decide)).s (b := 39) (j := 5) (v := some 45) (by decide)).s (b := 39) (j := 6) (v := some 46) (by decide))
set_option maxHeartbeats 1000000 in
theorem in_X6_init_48 {μ : Nat → Nat → Int} {R : Nat → Nat → Option Nat} (hz : ZrI 48 μ) (hr : ZrO 48 R) : Cl PT 62 [mR 47] (K0.take 48, μ, R, 48, 2837) (fun r => r = (some none, (K0.take 50, (m_set μ 47 3 (-1)), (m_set (m_set R 47 1 (some 48)) 47 2 (some 49)), 50, 2853))) := by
  refine ⟨_, PT_62, Nat.le_of_ble_eq_true rfl, ?_⟩
  show Rn PT none kX6_init 0 [some (mR 47)] [] (K0.take 48, μ, R, 48, 2837) _
  refine gn_aload_n (k' := 1) rfl rfl rfl ?_
  refine rn_nat (k' := 2) (S' := []) rfl rfl rfl ?_
  refine gn_aload_n (k' := 3) rfl rfl rfl ?_
  refine gn_bipush (k' := 4) rfl rfl ?_
  refine gn_newarray (k' := 5) (i := 48) (n := 8) (K' := K0.take 49) (c' := 49) (s' := 2845) rfl rfl rfl (by decide) rfl (fun j => hz 48 j (by decide)) rfl rfl rfl ?_
  have z1 := hz.up (i' := 49) (by decide)
  have o2 := hr.up (i' := 49) (by decide)
  refine gn_putR (k' := 6) rfl rfl (K0t_47 (by decide)) (by decide) rfl ?_
  have o3 := o2.s (b := 47) (j := 1) (v := some 48) (by decide)
  refine gn_aload_n (k' := 7) rfl rfl rfl ?_
  refine gn_bipush (k' := 8) rfl rfl ?_
  refine gn_newarray (k' := 9) (i := 49) (n := 8) (K' := K0.take 50) (c' := 50) (s' := 2853) rfl rfl rfl (by decide) rfl (fun j => z1 49 j (by decide)) rfl rfl rfl ?_
  have z4 := z1.up (i' := 50) (by decide)
  have o5 := o3.up (i' := 50) (by decide)
  refine gn_putR (k' := 10) rfl rfl (K0t_47 (by decide)) (by decide) rfl ?_
  have o6 := o5.s (b := 47) (j := 2) (v := some 49) (by decide)
  refine gn_aload_n (k' := 11) rfl rfl rfl ?_
  refine gn_iconst (k' := 12) rfl rfl ?_
  refine gn_putI (k' := 13) rfl rfl (K0t_47 (by decide)) (by decide) rfl ?_
  have z7 := z4.s (b := 47) (j := 3) (v := (-1)) (by decide)
  exact rn_vret rfl rfl
theorem in_X6_init_48_z {μ : Nat → Nat → Int} (hz : ZrI 48 μ) : ZrI 50 (m_set μ 47 3 (-1)) := ((hz.up (i' := 50) (by decide)).s (b := 47) (j := 3) (v := (-1)) (by decide))
theorem in_X6_init_48_o {R : Nat → Nat → Option Nat} (hr : ZrO 48 R) : ZrO 50 (m_set (m_set R 47 1 (some 48)) 47 2 (some 49)) := (((hr.up (i' := 50) (by decide)).s (b := 47) (j := 1) (v := some 48) (by decide)).s (b := 47) (j := 2) (v := some 49) (by decide))
set_option maxHeartbeats 1000000 in
theorem in_X4_init_51 {μ : Nat → Nat → Int} {R : Nat → Nat → Option Nat} (hz : ZrI 51 μ) (hr : ZrO 51 R) : Cl PT 40 [mR 50] (K0.take 51, μ, R, 51, 2857) (fun r => r = (some none, (K0.take 54, μ, (m_set (m_set (m_set R 50 1 (some 51)) 50 2 (some 52)) 50 3 (some 53)), 54, 2947))) := by
  refine ⟨_, PT_40, Nat.le_of_ble_eq_true rfl, ?_⟩
  show Rn PT none kX4_init 0 [some (mR 50)] [] (K0.take 51, μ, R, 51, 2857) _
  refine gn_aload_n (k' := 1) rfl rfl rfl ?_
  refine rn_nat (k' := 2) (S' := []) rfl rfl rfl ?_
  refine gn_aload_n (k' := 3) rfl rfl rfl ?_
  refine gn_bipush (k' := 4) rfl rfl ?_
  refine gn_newarray (k' := 5) (i := 51) (n := 30) (K' := K0.take 52) (c' := 52) (s' := 2887) rfl rfl rfl (by decide) rfl (fun j => hz 51 j (by decide)) rfl rfl rfl ?_
  have z1 := hz.up (i' := 52) (by decide)
  have o2 := hr.up (i' := 52) (by decide)
  refine gn_putR (k' := 6) rfl rfl (K0t_50 (by decide)) (by decide) rfl ?_
  have o3 := o2.s (b := 50) (j := 1) (v := some 51) (by decide)
  refine gn_aload_n (k' := 7) rfl rfl rfl ?_
  refine gn_bipush (k' := 8) rfl rfl ?_
  refine gn_newarray (k' := 9) (i := 52) (n := 30) (K' := K0.take 53) (c' := 53) (s' := 2917) rfl rfl rfl (by decide) rfl (fun j => z1 52 j (by decide)) rfl rfl rfl ?_
  have z4 := z1.up (i' := 53) (by decide)
  have o5 := o3.up (i' := 53) (by decide)
  refine gn_putR (k' := 10) rfl rfl (K0t_50 (by decide)) (by decide) rfl ?_
  have o6 := o5.s (b := 50) (j := 2) (v := some 52) (by decide)
  refine gn_aload_n (k' := 11) rfl rfl rfl ?_
  refine gn_bipush (k' := 12) rfl rfl ?_
  refine gn_newarray (k' := 13) (i := 53) (n := 30) (K' := K0.take 54) (c' := 54) (s' := 2947) rfl rfl rfl (by decide) rfl (fun j => z4 53 j (by decide)) rfl rfl rfl ?_
  have z7 := z4.up (i' := 54) (by decide)
  have o8 := o6.up (i' := 54) (by decide)
  refine gn_putR (k' := 14) rfl rfl (K0t_50 (by decide)) (by decide) rfl ?_
  have o9 := o8.s (b := 50) (j := 3) (v := some 53) (by decide)
  exact rn_vret rfl rfl
theorem in_X4_init_51_z {μ : Nat → Nat → Int} (hz : ZrI 51 μ) : ZrI 54 μ := (hz.up (i' := 54) (by decide))
theorem in_X4_init_51_o {R : Nat → Nat → Option Nat} (hr : ZrO 51 R) : ZrO 54 (m_set (m_set (m_set R 50 1 (some 51)) 50 2 (some 52)) 50 3 (some 53)) := ((((hr.up (i' := 54) (by decide)).s (b := 50) (j := 1) (v := some 51) (by decide)).s (b := 50) (j := 2) (v := some 52) (by decide)).s (b := 50) (j := 3) (v := some 53) (by decide))
set_option maxHeartbeats 1000000 in
theorem in_X2_init_39 {μ : Nat → Nat → Int} {R : Nat → Nat → Option Nat} (hz : ZrI 39 μ) (hr : ZrO 39 R) : Cl PT 24 [mR 38] (K0.take 39, μ, R, 39, 2297) (fun r => r = (some none, (K0.take 54, (m_set (m_set (m_set (m_set (m_set (m_set (m_set (m_set (m_set (m_set (m_set (m_set (m_upd (m_upd (m_upd μ 41 (fl (fun _ => (-1)) (fun _ => 0) 300)) 42 (fl (fun _ => 0) (fun _ => 0) 3)) 43 (fl (fun _ => (-1)) (fun _ => 0) 90)) 39 7 0) 39 8 0) 39 9 0) 39 10 1) 39 11 99) 39 12 0) 39 13 0) 39 14 (-1)) 39 15 0) 39 16 0) 39 17 0) 47 3 (-1)), (m_set (m_set (m_set (m_set (m_set (m_set (m_set (m_set (m_set (m_set (m_set (m_set (m_set (m_set (m_set R 39 0 (some 40)) 39 1 (some 41)) 39 2 (some 42)) 39 3 (some 43)) 39 4 (some 44)) 39 5 (some 45)) 39 6 (some 46)) 38 0 (some 39)) 47 1 (some 48)) 47 2 (some 49)) 38 1 (some 47)) 50 1 (some 51)) 50 2 (some 52)) 50 3 (some 53)) 38 2 (some 50)), 54, 2947))) := by
  refine ⟨_, PT_24, Nat.le_of_ble_eq_true rfl, ?_⟩
  show Rn PT none kX2_init 0 [some (mR 38)] [] (K0.take 39, μ, R, 39, 2297) _
  refine gn_aload_n (k' := 1) rfl rfl rfl ?_
  refine rn_nat (k' := 2) (S' := []) rfl rfl rfl ?_
  refine gn_aload_n (k' := 3) rfl rfl rfl ?_
  refine gn_new (k' := 4) (i := 39) (n := 18) (K' := K0.take 40) (c' := 40) (s' := 2315) rfl rfl rfl rfl rfl (by decide) (fun j => hz 39 j (by decide)) (fun j => hr 39 j (by decide)) rfl rfl rfl ?_
  have z1 := hz.up (i' := 40) (by decide)
  have o2 := hr.up (i' := 40) (by decide)
  refine gn_dupR (k' := 5) rfl rfl ?_
  refine rn_callP (k' := 6) (y := 26) (vs := [mR 39]) (S' := [mR 39, mR 38]) (v := none) rfl rfl rfl (in_X3_init_40 z1 o2 ) ?_
  show Rn PT none kX2_init 6 [some (mR 38)] [mR 39, mR 38] _ _
  have z3 := in_X3_init_40_z z1
  have o4 := in_X3_init_40_o o2
  refine gn_putR (k' := 7) rfl rfl (K0t_38 (by decide)) (by decide) rfl ?_
  have o5 := o4.s (b := 38) (j := 0) (v := some 39) (by decide)
  refine gn_aload_n (k' := 8) rfl rfl rfl ?_
  refine gn_new (k' := 9) (i := 47) (n := 5) (K' := K0.take 48) (c' := 48) (s' := 2837) rfl rfl rfl rfl rfl (by decide) (fun j => z3 47 j (by decide)) (fun j => o5 47 j (by decide)) rfl rfl rfl ?_
  have z6 := z3.up (i' := 48) (by decide)
  have o7 := o5.up (i' := 48) (by decide)
  refine gn_dupR (k' := 10) rfl rfl ?_
  refine rn_callP (k' := 11) (y := 62) (vs := [mR 47]) (S' := [mR 47, mR 38]) (v := none) rfl rfl rfl (in_X6_init_48 z6 o7 ) ?_
  show Rn PT none kX2_init 11 [some (mR 38)] [mR 47, mR 38] _ _
  have z8 := in_X6_init_48_z z6
  have o9 := in_X6_init_48_o o7
  refine gn_putR (k' := 12) rfl rfl (K0t_38 (by decide)) (by decide) rfl ?_
  have o10 := o9.s (b := 38) (j := 1) (v := some 47) (by decide)
  refine gn_aload_n (k' := 13) rfl rfl rfl ?_
  refine gn_new (k' := 14) (i := 50) (n := 4) (K' := K0.take 51) (c' := 51) (s' := 2857) rfl rfl rfl rfl rfl (by decide) (fun j => z8 50 j (by decide)) (fun j => o10 50 j (by decide)) rfl rfl rfl ?_
  have z11 := z8.up (i' := 51) (by decide)
  have o12 := o10.up (i' := 51) (by decide)
  refine gn_dupR (k' := 15) rfl rfl ?_
  refine rn_callP (k' := 16) (y := 40) (vs := [mR 50]) (S' := [mR 50, mR 38]) (v := none) rfl rfl rfl (in_X4_init_51 z11 o12 ) ?_
  show Rn PT none kX2_init 16 [some (mR 38)] [mR 50, mR 38] _ _
  have z13 := in_X4_init_51_z z11
  have o14 := in_X4_init_51_o o12
  refine gn_putR (k' := 17) rfl rfl (K0t_38 (by decide)) (by decide) rfl ?_
  have o15 := o14.s (b := 38) (j := 2) (v := some 50) (by decide)
  exact rn_vret rfl rfl
theorem in_X2_init_39_z {μ : Nat → Nat → Int} (hz : ZrI 39 μ) : ZrI 54 (m_set (m_set (m_set (m_set (m_set (m_set (m_set (m_set (m_set (m_set (m_set (m_set (m_upd (m_upd (m_upd μ 41 (fl (fun _ => (-1)) (fun _ => 0) 300)) 42 (fl (fun _ => 0) (fun _ => 0) 3)) 43 (fl (fun _ => (-1)) (fun _ => 0) 90)) 39 7 0) 39 8 0) 39 9 0) 39 10 1) 39 11 99) 39 12 0) 39 13 0) 39 14 (-1)) 39 15 0) 39 16 0) 39 17 0) 47 3 (-1)) := ((((((((((((((((hz.up (i' := 54) (by decide)).u (b := 41) (f := fl (fun _ => (-1)) (fun _ => 0) 300) (by decide)).u (b := 42) (f := fl (fun _ => 0) (fun _ => 0) 3) (by decide)).u (b := 43) (f := fl (fun _ => (-1)) (fun _ => 0) 90) (by decide)).s (b := 39) (j := 7) (v := 0) (by decide)).s (b := 39) (j := 8) (v := 0) (by decide)).s (b := 39) (j := 9) (v := 0) (by decide)).s (b := 39) (j := 10) (v := 1) (by decide)).s (b := 39) (j := 11) (v := 99) (by decide)).s (b := 39) (j := 12) (v := 0) (by decide)).s (b := 39) (j := 13) (v := 0) (by decide)).s (b := 39) (j := 14) (v := (-1)) (by decide)).s (b := 39) (j := 15) (v := 0) (by decide)).s (b := 39) (j := 16) (v := 0) (by decide)).s (b := 39) (j := 17) (v := 0) (by decide)).s (b := 47) (j := 3) (v := (-1)) (by decide))
theorem in_X2_init_39_o {R : Nat → Nat → Option Nat} (hr : ZrO 39 R) : ZrO 54 (m_set (m_set (m_set (m_set (m_set (m_set (m_set (m_set (m_set (m_set (m_set (m_set (m_set (m_set (m_set R 39 0 (some 40)) 39 1 (some 41)) 39 2 (some 42)) 39 3 (some 43)) 39 4 (some 44)) 39 5 (some 45)) 39 6 (some 46)) 38 0 (some 39)) 47 1 (some 48)) 47 2 (some 49)) 38 1 (some 47)) 50 1 (some 51)) 50 2 (some 52)) 50 3 (some 53)) 38 2 (some 50)) := ((((((((((((((((hr.up (i' := 54) (by decide)).s (b := 39) (j := 0) (v := some 40) (by decide)).s (b := 39) (j := 1) (v := some 41) (by decide)).s (b := 39) (j := 2) (v := some 42) (by decide)).s (b := 39) (j := 3) (v := some 43) (by decide)).s (b := 39) (j := 4) (v := some 44) (by decide)).s (b := 39) (j := 5) (v := some 45) (by decide)).s (b := 39) (j := 6) (v := some 46) (by decide)).s (b := 38) (j := 0) (v := some 39) (by decide)).s (b := 47) (j := 1) (v := some 48) (by decide)).s (b := 47) (j := 2) (v := some 49) (by decide)).s (b := 38) (j := 1) (v := some 47) (by decide)).s (b := 50) (j := 1) (v := some 51) (by decide)).s (b := 50) (j := 2) (v := some 52) (by decide)).s (b := 50) (j := 3) (v := some 53) (by decide)).s (b := 38) (j := 2) (v := some 50) (by decide))
set_option maxHeartbeats 1000000 in
theorem in_X3_empty_62 {μ : Nat → Nat → Int} {R : Nat → Nat → Option Nat} (hz : ZrI 62 μ) (hr : ZrO 62 R) (hr_54_1 : R 54 1 = some 56) (hr_54_2 : R 54 2 = some 57) (hr_54_3 : R 54 3 = some 58) (hy_56 : ∀ j, μ 56 j = 0) (hy_57 : ∀ j, μ 57 j = 0) (hy_58 : ∀ j, μ 58 j = 0) : Cl PT 27 [mR 54] (K0.take 62, μ, R, 62, 3482) (fun r => r = (some none, (K0.take 62, (m_set (m_set (m_set (m_set (m_set (m_set (m_set (m_set (m_set (m_set (m_set (m_upd (m_upd (m_upd μ 56 (fl (fun _ => (-1)) (fun _ => 0) 300)) 57 (fl (fun _ => 0) (fun _ => 0) 3)) 58 (fl (fun _ => (-1)) (fun _ => 0) 90)) 54 7 0) 54 8 0) 54 9 0) 54 10 1) 54 11 99) 54 12 0) 54 13 0) 54 14 (-1)) 54 15 0) 54 16 0) 54 17 0), R, 62, 3482))) := by
  refine ⟨_, PT_27, Nat.le_of_ble_eq_true rfl, ?_⟩
  show Rn PT none kX3_empty 0 [some (mR 54)] [] (K0.take 62, μ, R, 62, 3482) _
  refine gn_aload_n (k' := 1) rfl rfl rfl ?_
  refine gn_getR (k' := 2) rfl rfl (K0t_54 (by decide)) (by decide) rfl hr_54_1 ?_
  refine gn_iconst (k' := 3) rfl rfl ?_
  refine rn_callP (k' := 4) (y := 275) (vs := [mR 56, mI (-1)]) (S' := []) (v := none) rfl rfl rfl (gc_fill0 (K0t_56 (by decide)) (by decide) hy_56) ?_
  show Rn PT none kX3_empty 4 [some (mR 54)] [] _ _
  have z1 := hz.u (b := 56) (f := fl (fun _ => (-1)) (fun _ => 0) 300) (by decide)
  refine gn_aload_n (k' := 5) rfl rfl rfl ?_
  refine gn_getR (k' := 6) rfl rfl (K0t_54 (by decide)) (by decide) rfl hr_54_2 ?_
  refine gn_iconst (k' := 7) rfl rfl ?_
  refine rn_callP (k' := 8) (y := 275) (vs := [mR 57, mI 0]) (S' := []) (v := none) rfl rfl rfl (gc_fill0 (K0t_57 (by decide)) (by decide) hy_57) ?_
  show Rn PT none kX3_empty 8 [some (mR 54)] [] _ _
  have z2 := z1.u (b := 57) (f := fl (fun _ => 0) (fun _ => 0) 3) (by decide)
  refine gn_aload_n (k' := 9) rfl rfl rfl ?_
  refine gn_getR (k' := 10) rfl rfl (K0t_54 (by decide)) (by decide) rfl hr_54_3 ?_
  refine gn_iconst (k' := 11) rfl rfl ?_
  refine rn_callP (k' := 12) (y := 275) (vs := [mR 58, mI (-1)]) (S' := []) (v := none) rfl rfl rfl (gc_fill0 (K0t_58 (by decide)) (by decide) hy_58) ?_
  show Rn PT none kX3_empty 12 [some (mR 54)] [] _ _
  have z3 := z2.u (b := 58) (f := fl (fun _ => (-1)) (fun _ => 0) 90) (by decide)
  refine gn_aload_n (k' := 13) rfl rfl rfl ?_
  refine gn_iconst (k' := 14) rfl rfl ?_
  refine gn_putI (k' := 15) rfl rfl (K0t_54 (by decide)) (by decide) rfl ?_
  have z4 := z3.s (b := 54) (j := 7) (v := 0) (by decide)
  refine gn_aload_n (k' := 16) rfl rfl rfl ?_
  refine gn_iconst (k' := 17) rfl rfl ?_
  refine gn_putI (k' := 18) rfl rfl (K0t_54 (by decide)) (by decide) rfl ?_
  have z5 := z4.s (b := 54) (j := 8) (v := 0) (by decide)
  refine gn_aload_n (k' := 19) rfl rfl rfl ?_
  refine gn_iconst (k' := 20) rfl rfl ?_
  refine gn_putI (k' := 21) rfl rfl (K0t_54 (by decide)) (by decide) rfl ?_
  have z6 := z5.s (b := 54) (j := 9) (v := 0) (by decide)
  refine gn_aload_n (k' := 22) rfl rfl rfl ?_
  refine gn_iconst (k' := 23) rfl rfl ?_
  refine gn_putI (k' := 24) rfl rfl (K0t_54 (by decide)) (by decide) rfl ?_
  have z7 := z6.s (b := 54) (j := 10) (v := 1) (by decide)
  refine gn_aload_n (k' := 25) rfl rfl rfl ?_
  refine gn_bipush (k' := 26) rfl rfl ?_
  refine gn_putI (k' := 27) rfl rfl (K0t_54 (by decide)) (by decide) rfl ?_
  have z8 := z7.s (b := 54) (j := 11) (v := 99) (by decide)
  refine gn_aload_n (k' := 28) rfl rfl rfl ?_
  refine gn_iconst (k' := 29) rfl rfl ?_
  refine gn_putI (k' := 30) rfl rfl (K0t_54 (by decide)) (by decide) rfl ?_
  have z9 := z8.s (b := 54) (j := 12) (v := 0) (by decide)
  refine gn_aload_n (k' := 31) rfl rfl rfl ?_
  refine gn_iconst (k' := 32) rfl rfl ?_
  refine gn_putI (k' := 33) rfl rfl (K0t_54 (by decide)) (by decide) rfl ?_
  have z10 := z9.s (b := 54) (j := 13) (v := 0) (by decide)
  refine gn_aload_n (k' := 34) rfl rfl rfl ?_
  refine gn_iconst (k' := 35) rfl rfl ?_
  refine gn_putI (k' := 36) rfl rfl (K0t_54 (by decide)) (by decide) rfl ?_
  have z11 := z10.s (b := 54) (j := 14) (v := (-1)) (by decide)
  refine gn_aload_n (k' := 37) rfl rfl rfl ?_
  refine gn_iconst (k' := 38) rfl rfl ?_
  refine gn_putI (k' := 39) rfl rfl (K0t_54 (by decide)) (by decide) rfl ?_
  have z12 := z11.s (b := 54) (j := 15) (v := 0) (by decide)
  refine gn_aload_n (k' := 40) rfl rfl rfl ?_
  refine gn_iconst (k' := 41) rfl rfl ?_
  refine gn_putZ (k' := 42) rfl rfl (K0t_54 (by decide)) (by decide) rfl (.inl rfl) ?_
  have z13 := z12.s (b := 54) (j := 16) (v := 0) (by decide)
  refine gn_aload_n (k' := 43) rfl rfl rfl ?_
  refine gn_iconst (k' := 44) rfl rfl ?_
  refine gn_putZ (k' := 45) rfl rfl (K0t_54 (by decide)) (by decide) rfl (.inl rfl) ?_
  have z14 := z13.s (b := 54) (j := 17) (v := 0) (by decide)
  exact rn_vret rfl rfl
theorem in_X3_empty_62_z {μ : Nat → Nat → Int} (hz : ZrI 62 μ) : ZrI 62 (m_set (m_set (m_set (m_set (m_set (m_set (m_set (m_set (m_set (m_set (m_set (m_upd (m_upd (m_upd μ 56 (fl (fun _ => (-1)) (fun _ => 0) 300)) 57 (fl (fun _ => 0) (fun _ => 0) 3)) 58 (fl (fun _ => (-1)) (fun _ => 0) 90)) 54 7 0) 54 8 0) 54 9 0) 54 10 1) 54 11 99) 54 12 0) 54 13 0) 54 14 (-1)) 54 15 0) 54 16 0) 54 17 0) := (((((((((((((((hz.up (i' := 62) (by decide)).u (b := 56) (f := fl (fun _ => (-1)) (fun _ => 0) 300) (by decide)).u (b := 57) (f := fl (fun _ => 0) (fun _ => 0) 3) (by decide)).u (b := 58) (f := fl (fun _ => (-1)) (fun _ => 0) 90) (by decide)).s (b := 54) (j := 7) (v := 0) (by decide)).s (b := 54) (j := 8) (v := 0) (by decide)).s (b := 54) (j := 9) (v := 0) (by decide)).s (b := 54) (j := 10) (v := 1) (by decide)).s (b := 54) (j := 11) (v := 99) (by decide)).s (b := 54) (j := 12) (v := 0) (by decide)).s (b := 54) (j := 13) (v := 0) (by decide)).s (b := 54) (j := 14) (v := (-1)) (by decide)).s (b := 54) (j := 15) (v := 0) (by decide)).s (b := 54) (j := 16) (v := 0) (by decide)).s (b := 54) (j := 17) (v := 0) (by decide))
theorem in_X3_empty_62_o {R : Nat → Nat → Option Nat} (hr : ZrO 62 R) : ZrO 62 R := (hr.up (i' := 62) (by decide))
set_option maxHeartbeats 1000000 in
theorem in_X3_init_55 {μ : Nat → Nat → Int} {R : Nat → Nat → Option Nat} (hz : ZrI 55 μ) (hr : ZrO 55 R) : Cl PT 26 [mR 54] (K0.take 55, μ, R, 55, 2965) (fun r => r = (some none, (K0.take 62, (m_set (m_set (m_set (m_set (m_set (m_set (m_set (m_set (m_set (m_set (m_set (m_upd (m_upd (m_upd μ 56 (fl (fun _ => (-1)) (fun _ => 0) 300)) 57 (fl (fun _ => 0) (fun _ => 0) 3)) 58 (fl (fun _ => (-1)) (fun _ => 0) 90)) 54 7 0) 54 8 0) 54 9 0) 54 10 1) 54 11 99) 54 12 0) 54 13 0) 54 14 (-1)) 54 15 0) 54 16 0) 54 17 0), (m_set (m_set (m_set (m_set (m_set (m_set (m_set R 54 0 (some 55)) 54 1 (some 56)) 54 2 (some 57)) 54 3 (some 58)) 54 4 (some 59)) 54 5 (some 60)) 54 6 (some 61)), 62, 3482))) := by
  refine ⟨_, PT_26, Nat.le_of_ble_eq_true rfl, ?_⟩
  show Rn PT none kX3_init 0 [some (mR 54)] [] (K0.take 55, μ, R, 55, 2965) _
  refine gn_aload_n (k' := 1) rfl rfl rfl ?_
  refine rn_nat (k' := 2) (S' := []) rfl rfl rfl ?_
  refine gn_aload_n (k' := 3) rfl rfl rfl ?_
  refine gn_bipush (k' := 4) rfl rfl ?_
  refine gn_newarray (k' := 5) (i := 55) (n := 100) (K' := K0.take 56) (c' := 56) (s' := 3065) rfl rfl rfl (by decide) rfl (fun j => hz 55 j (by decide)) rfl rfl rfl ?_
  have z1 := hz.up (i' := 56) (by decide)
  have o2 := hr.up (i' := 56) (by decide)
  refine gn_putR (k' := 6) rfl rfl (K0t_54 (by decide)) (by decide) rfl ?_
  have o3 := o2.s (b := 54) (j := 0) (v := some 55) (by decide)
  refine gn_aload_n (k' := 7) rfl rfl rfl ?_
  refine gn_sipush (k' := 8) rfl rfl ?_
  refine gn_newarray (k' := 9) (i := 56) (n := 300) (K' := K0.take 57) (c' := 57) (s' := 3365) rfl rfl rfl (by decide) rfl (fun j => z1 56 j (by decide)) rfl rfl rfl ?_
  have z4 := z1.up (i' := 57) (by decide)
  have o5 := o3.up (i' := 57) (by decide)
  refine gn_putR (k' := 10) rfl rfl (K0t_54 (by decide)) (by decide) rfl ?_
  have o6 := o5.s (b := 54) (j := 1) (v := some 56) (by decide)
  refine gn_aload_n (k' := 11) rfl rfl rfl ?_
  refine gn_iconst (k' := 12) rfl rfl ?_
  refine gn_newarray (k' := 13) (i := 57) (n := 3) (K' := K0.take 58) (c' := 58) (s' := 3368) rfl rfl rfl (by decide) rfl (fun j => z4 57 j (by decide)) rfl rfl rfl ?_
  have z7 := z4.up (i' := 58) (by decide)
  have o8 := o6.up (i' := 58) (by decide)
  refine gn_putR (k' := 14) rfl rfl (K0t_54 (by decide)) (by decide) rfl ?_
  have o9 := o8.s (b := 54) (j := 2) (v := some 57) (by decide)
  refine gn_aload_n (k' := 15) rfl rfl rfl ?_
  refine gn_bipush (k' := 16) rfl rfl ?_
  refine gn_newarray (k' := 17) (i := 58) (n := 90) (K' := K0.take 59) (c' := 59) (s' := 3458) rfl rfl rfl (by decide) rfl (fun j => z7 58 j (by decide)) rfl rfl rfl ?_
  have z10 := z7.up (i' := 59) (by decide)
  have o11 := o9.up (i' := 59) (by decide)
  refine gn_putR (k' := 18) rfl rfl (K0t_54 (by decide)) (by decide) rfl ?_
  have o12 := o11.s (b := 54) (j := 3) (v := some 58) (by decide)
  refine gn_aload_n (k' := 19) rfl rfl rfl ?_
  refine gn_bipush (k' := 20) rfl rfl ?_
  refine gn_newarray (k' := 21) (i := 59) (n := 8) (K' := K0.take 60) (c' := 60) (s' := 3466) rfl rfl rfl (by decide) rfl (fun j => z10 59 j (by decide)) rfl rfl rfl ?_
  have z13 := z10.up (i' := 60) (by decide)
  have o14 := o12.up (i' := 60) (by decide)
  refine gn_putR (k' := 22) rfl rfl (K0t_54 (by decide)) (by decide) rfl ?_
  have o15 := o14.s (b := 54) (j := 4) (v := some 59) (by decide)
  refine gn_aload_n (k' := 23) rfl rfl rfl ?_
  refine gn_bipush (k' := 24) rfl rfl ?_
  refine gn_newarray (k' := 25) (i := 60) (n := 8) (K' := K0.take 61) (c' := 61) (s' := 3474) rfl rfl rfl (by decide) rfl (fun j => z13 60 j (by decide)) rfl rfl rfl ?_
  have z16 := z13.up (i' := 61) (by decide)
  have o17 := o15.up (i' := 61) (by decide)
  refine gn_putR (k' := 26) rfl rfl (K0t_54 (by decide)) (by decide) rfl ?_
  have o18 := o17.s (b := 54) (j := 5) (v := some 60) (by decide)
  refine gn_aload_n (k' := 27) rfl rfl rfl ?_
  refine gn_bipush (k' := 28) rfl rfl ?_
  refine gn_newarray (k' := 29) (i := 61) (n := 8) (K' := K0.take 62) (c' := 62) (s' := 3482) rfl rfl rfl (by decide) rfl (fun j => z16 61 j (by decide)) rfl rfl rfl ?_
  have z19 := z16.up (i' := 62) (by decide)
  have o20 := o18.up (i' := 62) (by decide)
  refine gn_putR (k' := 30) rfl rfl (K0t_54 (by decide)) (by decide) rfl ?_
  have o21 := o20.s (b := 54) (j := 6) (v := some 61) (by decide)
  refine gn_aload_n (k' := 31) rfl rfl rfl ?_
  refine rn_callP (k' := 32) (y := 27) (vs := [mR 54]) (S' := []) (v := none) rfl rfl rfl (in_X3_empty_62 z19 o21 rfl rfl rfl (fun j => hz 56 j (by decide)) (fun j => hz 57 j (by decide)) (fun j => hz 58 j (by decide))) ?_
  show Rn PT none kX3_init 32 [some (mR 54)] [] _ _
  have z22 := in_X3_empty_62_z z19
  have o23 := in_X3_empty_62_o o21
  exact rn_vret rfl rfl
theorem in_X3_init_55_z {μ : Nat → Nat → Int} (hz : ZrI 55 μ) : ZrI 62 (m_set (m_set (m_set (m_set (m_set (m_set (m_set (m_set (m_set (m_set (m_set (m_upd (m_upd (m_upd μ 56 (fl (fun _ => (-1)) (fun _ => 0) 300)) 57 (fl (fun _ => 0) (fun _ => 0) 3)) 58 (fl (fun _ => (-1)) (fun _ => 0) 90)) 54 7 0) 54 8 0) 54 9 0) 54 10 1) 54 11 99) 54 12 0) 54 13 0) 54 14 (-1)) 54 15 0) 54 16 0) 54 17 0) := (((((((((((((((hz.up (i' := 62) (by decide)).u (b := 56) (f := fl (fun _ => (-1)) (fun _ => 0) 300) (by decide)).u (b := 57) (f := fl (fun _ => 0) (fun _ => 0) 3) (by decide)).u (b := 58) (f := fl (fun _ => (-1)) (fun _ => 0) 90) (by decide)).s (b := 54) (j := 7) (v := 0) (by decide)).s (b := 54) (j := 8) (v := 0) (by decide)).s (b := 54) (j := 9) (v := 0) (by decide)).s (b := 54) (j := 10) (v := 1) (by decide)).s (b := 54) (j := 11) (v := 99) (by decide)).s (b := 54) (j := 12) (v := 0) (by decide)).s (b := 54) (j := 13) (v := 0) (by decide)).s (b := 54) (j := 14) (v := (-1)) (by decide)).s (b := 54) (j := 15) (v := 0) (by decide)).s (b := 54) (j := 16) (v := 0) (by decide)).s (b := 54) (j := 17) (v := 0) (by decide))
theorem in_X3_init_55_o {R : Nat → Nat → Option Nat} (hr : ZrO 55 R) : ZrO 62 (m_set (m_set (m_set (m_set (m_set (m_set (m_set R 54 0 (some 55)) 54 1 (some 56)) 54 2 (some 57)) 54 3 (some 58)) 54 4 (some 59)) 54 5 (some 60)) 54 6 (some 61)) := ((((((((hr.up (i' := 62) (by decide)).s (b := 54) (j := 0) (v := some 55) (by decide)).s (b := 54) (j := 1) (v := some 56) (by decide)).s (b := 54) (j := 2) (v := some 57) (by decide)).s (b := 54) (j := 3) (v := some 58) (by decide)).s (b := 54) (j := 4) (v := some 59) (by decide)).s (b := 54) (j := 5) (v := some 60) (by decide)).s (b := 54) (j := 6) (v := some 61) (by decide))
set_option maxHeartbeats 1000000 in
theorem in_X4_init_63 {μ : Nat → Nat → Int} {R : Nat → Nat → Option Nat} (hz : ZrI 63 μ) (hr : ZrO 63 R) : Cl PT 40 [mR 62] (K0.take 63, μ, R, 63, 3486) (fun r => r = (some none, (K0.take 66, μ, (m_set (m_set (m_set R 62 1 (some 63)) 62 2 (some 64)) 62 3 (some 65)), 66, 3576))) := by
  refine ⟨_, PT_40, Nat.le_of_ble_eq_true rfl, ?_⟩
  show Rn PT none kX4_init 0 [some (mR 62)] [] (K0.take 63, μ, R, 63, 3486) _
  refine gn_aload_n (k' := 1) rfl rfl rfl ?_
  refine rn_nat (k' := 2) (S' := []) rfl rfl rfl ?_
  refine gn_aload_n (k' := 3) rfl rfl rfl ?_
  refine gn_bipush (k' := 4) rfl rfl ?_
  refine gn_newarray (k' := 5) (i := 63) (n := 30) (K' := K0.take 64) (c' := 64) (s' := 3516) rfl rfl rfl (by decide) rfl (fun j => hz 63 j (by decide)) rfl rfl rfl ?_
  have z1 := hz.up (i' := 64) (by decide)
  have o2 := hr.up (i' := 64) (by decide)
  refine gn_putR (k' := 6) rfl rfl (K0t_62 (by decide)) (by decide) rfl ?_
  have o3 := o2.s (b := 62) (j := 1) (v := some 63) (by decide)
  refine gn_aload_n (k' := 7) rfl rfl rfl ?_
  refine gn_bipush (k' := 8) rfl rfl ?_
  refine gn_newarray (k' := 9) (i := 64) (n := 30) (K' := K0.take 65) (c' := 65) (s' := 3546) rfl rfl rfl (by decide) rfl (fun j => z1 64 j (by decide)) rfl rfl rfl ?_
  have z4 := z1.up (i' := 65) (by decide)
  have o5 := o3.up (i' := 65) (by decide)
  refine gn_putR (k' := 10) rfl rfl (K0t_62 (by decide)) (by decide) rfl ?_
  have o6 := o5.s (b := 62) (j := 2) (v := some 64) (by decide)
  refine gn_aload_n (k' := 11) rfl rfl rfl ?_
  refine gn_bipush (k' := 12) rfl rfl ?_
  refine gn_newarray (k' := 13) (i := 65) (n := 30) (K' := K0.take 66) (c' := 66) (s' := 3576) rfl rfl rfl (by decide) rfl (fun j => z4 65 j (by decide)) rfl rfl rfl ?_
  have z7 := z4.up (i' := 66) (by decide)
  have o8 := o6.up (i' := 66) (by decide)
  refine gn_putR (k' := 14) rfl rfl (K0t_62 (by decide)) (by decide) rfl ?_
  have o9 := o8.s (b := 62) (j := 3) (v := some 65) (by decide)
  exact rn_vret rfl rfl
theorem in_X4_init_63_z {μ : Nat → Nat → Int} (hz : ZrI 63 μ) : ZrI 66 μ := (hz.up (i' := 66) (by decide))
theorem in_X4_init_63_o {R : Nat → Nat → Option Nat} (hr : ZrO 63 R) : ZrO 66 (m_set (m_set (m_set R 62 1 (some 63)) 62 2 (some 64)) 62 3 (some 65)) := ((((hr.up (i' := 66) (by decide)).s (b := 62) (j := 1) (v := some 63) (by decide)).s (b := 62) (j := 2) (v := some 64) (by decide)).s (b := 62) (j := 3) (v := some 65) (by decide))
set_option maxHeartbeats 1000000 in
theorem in_X10_init_67 {μ : Nat → Nat → Int} {R : Nat → Nat → Option Nat} (hz : ZrI 67 μ) (hr : ZrO 67 R) : Cl PT 86 [mR 66, mR 6] (K0.take 67, μ, R, 67, 3585) (fun r => r = (some none, (K0.take 74, μ, (m_set (m_set (m_set (m_set (m_set (m_set (m_set (m_set R 66 1 (some 67)) 66 2 (some 68)) 66 3 (some 69)) 66 4 (some 70)) 66 5 (some 71)) 66 6 (some 72)) 66 7 (some 73)) 66 0 (some 6)), 74, 4285))) := by
  refine ⟨_, PT_86, Nat.le_of_ble_eq_true rfl, ?_⟩
  show Rn PT none kX10_init 0 [some (mR 66), some (mR 6)] [] (K0.take 67, μ, R, 67, 3585) _
  refine gn_aload_n (k' := 1) rfl rfl rfl ?_
  refine rn_nat (k' := 2) (S' := []) rfl rfl rfl ?_
  refine gn_aload_n (k' := 3) rfl rfl rfl ?_
  refine gn_bipush (k' := 4) rfl rfl ?_
  refine gn_newarray (k' := 5) (i := 67) (n := 100) (K' := K0.take 68) (c' := 68) (s' := 3685) rfl rfl rfl (by decide) rfl (fun j => hz 67 j (by decide)) rfl rfl rfl ?_
  have z1 := hz.up (i' := 68) (by decide)
  have o2 := hr.up (i' := 68) (by decide)
  refine gn_putR (k' := 6) rfl rfl (K0t_66 (by decide)) (by decide) rfl ?_
  have o3 := o2.s (b := 66) (j := 1) (v := some 67) (by decide)
  refine gn_aload_n (k' := 7) rfl rfl rfl ?_
  refine gn_bipush (k' := 8) rfl rfl ?_
  refine gn_newarray (k' := 9) (i := 68) (n := 100) (K' := K0.take 69) (c' := 69) (s' := 3785) rfl rfl rfl (by decide) rfl (fun j => z1 68 j (by decide)) rfl rfl rfl ?_
  have z4 := z1.up (i' := 69) (by decide)
  have o5 := o3.up (i' := 69) (by decide)
  refine gn_putR (k' := 10) rfl rfl (K0t_66 (by decide)) (by decide) rfl ?_
  have o6 := o5.s (b := 66) (j := 2) (v := some 68) (by decide)
  refine gn_aload_n (k' := 11) rfl rfl rfl ?_
  refine gn_bipush (k' := 12) rfl rfl ?_
  refine gn_newarray (k' := 13) (i := 69) (n := 100) (K' := K0.take 70) (c' := 70) (s' := 3885) rfl rfl rfl (by decide) rfl (fun j => z4 69 j (by decide)) rfl rfl rfl ?_
  have z7 := z4.up (i' := 70) (by decide)
  have o8 := o6.up (i' := 70) (by decide)
  refine gn_putR (k' := 14) rfl rfl (K0t_66 (by decide)) (by decide) rfl ?_
  have o9 := o8.s (b := 66) (j := 3) (v := some 69) (by decide)
  refine gn_aload_n (k' := 15) rfl rfl rfl ?_
  refine gn_bipush (k' := 16) rfl rfl ?_
  refine gn_newarray (k' := 17) (i := 70) (n := 100) (K' := K0.take 71) (c' := 71) (s' := 3985) rfl rfl rfl (by decide) rfl (fun j => z7 70 j (by decide)) rfl rfl rfl ?_
  have z10 := z7.up (i' := 71) (by decide)
  have o11 := o9.up (i' := 71) (by decide)
  refine gn_putR (k' := 18) rfl rfl (K0t_66 (by decide)) (by decide) rfl ?_
  have o12 := o11.s (b := 66) (j := 4) (v := some 70) (by decide)
  refine gn_aload_n (k' := 19) rfl rfl rfl ?_
  refine gn_bipush (k' := 20) rfl rfl ?_
  refine gn_newarray (k' := 21) (i := 71) (n := 100) (K' := K0.take 72) (c' := 72) (s' := 4085) rfl rfl rfl (by decide) rfl (fun j => z10 71 j (by decide)) rfl rfl rfl ?_
  have z13 := z10.up (i' := 72) (by decide)
  have o14 := o12.up (i' := 72) (by decide)
  refine gn_putR (k' := 22) rfl rfl (K0t_66 (by decide)) (by decide) rfl ?_
  have o15 := o14.s (b := 66) (j := 5) (v := some 71) (by decide)
  refine gn_aload_n (k' := 23) rfl rfl rfl ?_
  refine gn_bipush (k' := 24) rfl rfl ?_
  refine gn_newarray (k' := 25) (i := 72) (n := 100) (K' := K0.take 73) (c' := 73) (s' := 4185) rfl rfl rfl (by decide) rfl (fun j => z13 72 j (by decide)) rfl rfl rfl ?_
  have z16 := z13.up (i' := 73) (by decide)
  have o17 := o15.up (i' := 73) (by decide)
  refine gn_putR (k' := 26) rfl rfl (K0t_66 (by decide)) (by decide) rfl ?_
  have o18 := o17.s (b := 66) (j := 6) (v := some 72) (by decide)
  refine gn_aload_n (k' := 27) rfl rfl rfl ?_
  refine gn_bipush (k' := 28) rfl rfl ?_
  refine gn_newarray (k' := 29) (i := 73) (n := 100) (K' := K0.take 74) (c' := 74) (s' := 4285) rfl rfl rfl (by decide) rfl (fun j => z16 73 j (by decide)) rfl rfl rfl ?_
  have z19 := z16.up (i' := 74) (by decide)
  have o20 := o18.up (i' := 74) (by decide)
  refine gn_putR (k' := 30) rfl rfl (K0t_66 (by decide)) (by decide) rfl ?_
  have o21 := o20.s (b := 66) (j := 7) (v := some 73) (by decide)
  refine gn_aload_n (k' := 31) rfl rfl rfl ?_
  refine gn_aload_n (k' := 32) rfl rfl rfl ?_
  refine gn_putR (k' := 33) rfl rfl (K0t_66 (by decide)) (by decide) rfl ?_
  have o22 := o21.s (b := 66) (j := 0) (v := some 6) (by decide)
  exact rn_vret rfl rfl
theorem in_X10_init_67_z {μ : Nat → Nat → Int} (hz : ZrI 67 μ) : ZrI 74 μ := (hz.up (i' := 74) (by decide))
theorem in_X10_init_67_o {R : Nat → Nat → Option Nat} (hr : ZrO 67 R) : ZrO 74 (m_set (m_set (m_set (m_set (m_set (m_set (m_set (m_set R 66 1 (some 67)) 66 2 (some 68)) 66 3 (some 69)) 66 4 (some 70)) 66 5 (some 71)) 66 6 (some 72)) 66 7 (some 73)) 66 0 (some 6)) := (((((((((hr.up (i' := 74) (by decide)).s (b := 66) (j := 1) (v := some 67) (by decide)).s (b := 66) (j := 2) (v := some 68) (by decide)).s (b := 66) (j := 3) (v := some 69) (by decide)).s (b := 66) (j := 4) (v := some 70) (by decide)).s (b := 66) (j := 5) (v := some 71) (by decide)).s (b := 66) (j := 6) (v := some 72) (by decide)).s (b := 66) (j := 7) (v := some 73) (by decide)).s (b := 66) (j := 0) (v := some 6) (by decide))
set_option maxHeartbeats 1000000 in
theorem in_X1_init_75 {μ : Nat → Nat → Int} {R : Nat → Nat → Option Nat} (hz : ZrI 75 μ) (hr : ZrO 75 R) : Cl PT 14 [mR 74, mR 6] (K0.take 75, μ, R, 75, 4294) (fun r => r = (some none, (K0.take 81, μ, (m_set (m_set (m_set (m_set (m_set (m_set (m_set R 74 1 (some 75)) 74 2 (some 76)) 74 3 (some 77)) 74 4 (some 78)) 74 5 (some 79)) 74 6 (some 80)) 74 0 (some 6)), 81, 5294))) := by
  refine ⟨_, PT_14, Nat.le_of_ble_eq_true rfl, ?_⟩
  show Rn PT none kX1_init 0 [some (mR 74), some (mR 6)] [] (K0.take 75, μ, R, 75, 4294) _
  refine gn_aload_n (k' := 1) rfl rfl rfl ?_
  refine rn_nat (k' := 2) (S' := []) rfl rfl rfl ?_
  refine gn_aload_n (k' := 3) rfl rfl rfl ?_
  refine gn_sipush (k' := 4) rfl rfl ?_
  refine gn_newarray (k' := 5) (i := 75) (n := 200) (K' := K0.take 76) (c' := 76) (s' := 4494) rfl rfl rfl (by decide) rfl (fun j => hz 75 j (by decide)) rfl rfl rfl ?_
  have z1 := hz.up (i' := 76) (by decide)
  have o2 := hr.up (i' := 76) (by decide)
  refine gn_putR (k' := 6) rfl rfl (K0t_74 (by decide)) (by decide) rfl ?_
  have o3 := o2.s (b := 74) (j := 1) (v := some 75) (by decide)
  refine gn_aload_n (k' := 7) rfl rfl rfl ?_
  refine gn_sipush (k' := 8) rfl rfl ?_
  refine gn_newarray (k' := 9) (i := 76) (n := 200) (K' := K0.take 77) (c' := 77) (s' := 4694) rfl rfl rfl (by decide) rfl (fun j => z1 76 j (by decide)) rfl rfl rfl ?_
  have z4 := z1.up (i' := 77) (by decide)
  have o5 := o3.up (i' := 77) (by decide)
  refine gn_putR (k' := 10) rfl rfl (K0t_74 (by decide)) (by decide) rfl ?_
  have o6 := o5.s (b := 74) (j := 2) (v := some 76) (by decide)
  refine gn_aload_n (k' := 11) rfl rfl rfl ?_
  refine gn_sipush (k' := 12) rfl rfl ?_
  refine gn_newarray (k' := 13) (i := 77) (n := 200) (K' := K0.take 78) (c' := 78) (s' := 4894) rfl rfl rfl (by decide) rfl (fun j => z4 77 j (by decide)) rfl rfl rfl ?_
  have z7 := z4.up (i' := 78) (by decide)
  have o8 := o6.up (i' := 78) (by decide)
  refine gn_putR (k' := 14) rfl rfl (K0t_74 (by decide)) (by decide) rfl ?_
  have o9 := o8.s (b := 74) (j := 3) (v := some 77) (by decide)
  refine gn_aload_n (k' := 15) rfl rfl rfl ?_
  refine gn_sipush (k' := 16) rfl rfl ?_
  refine gn_newarray (k' := 17) (i := 78) (n := 200) (K' := K0.take 79) (c' := 79) (s' := 5094) rfl rfl rfl (by decide) rfl (fun j => z7 78 j (by decide)) rfl rfl rfl ?_
  have z10 := z7.up (i' := 79) (by decide)
  have o11 := o9.up (i' := 79) (by decide)
  refine gn_putR (k' := 18) rfl rfl (K0t_74 (by decide)) (by decide) rfl ?_
  have o12 := o11.s (b := 74) (j := 4) (v := some 78) (by decide)
  refine gn_aload_n (k' := 19) rfl rfl rfl ?_
  refine gn_bipush (k' := 20) rfl rfl ?_
  refine gn_newarray (k' := 21) (i := 79) (n := 100) (K' := K0.take 80) (c' := 80) (s' := 5194) rfl rfl rfl (by decide) rfl (fun j => z10 79 j (by decide)) rfl rfl rfl ?_
  have z13 := z10.up (i' := 80) (by decide)
  have o14 := o12.up (i' := 80) (by decide)
  refine gn_putR (k' := 22) rfl rfl (K0t_74 (by decide)) (by decide) rfl ?_
  have o15 := o14.s (b := 74) (j := 5) (v := some 79) (by decide)
  refine gn_aload_n (k' := 23) rfl rfl rfl ?_
  refine gn_bipush (k' := 24) rfl rfl ?_
  refine gn_newarray (k' := 25) (i := 80) (n := 100) (K' := K0.take 81) (c' := 81) (s' := 5294) rfl rfl rfl (by decide) rfl (fun j => z13 80 j (by decide)) rfl rfl rfl ?_
  have z16 := z13.up (i' := 81) (by decide)
  have o17 := o15.up (i' := 81) (by decide)
  refine gn_putR (k' := 26) rfl rfl (K0t_74 (by decide)) (by decide) rfl ?_
  have o18 := o17.s (b := 74) (j := 6) (v := some 80) (by decide)
  refine gn_aload_n (k' := 27) rfl rfl rfl ?_
  refine gn_aload_n (k' := 28) rfl rfl rfl ?_
  refine gn_putR (k' := 29) rfl rfl (K0t_74 (by decide)) (by decide) rfl ?_
  have o19 := o18.s (b := 74) (j := 0) (v := some 6) (by decide)
  exact rn_vret rfl rfl
theorem in_X1_init_75_z {μ : Nat → Nat → Int} (hz : ZrI 75 μ) : ZrI 81 μ := (hz.up (i' := 81) (by decide))
theorem in_X1_init_75_o {R : Nat → Nat → Option Nat} (hr : ZrO 75 R) : ZrO 81 (m_set (m_set (m_set (m_set (m_set (m_set (m_set R 74 1 (some 75)) 74 2 (some 76)) 74 3 (some 77)) 74 4 (some 78)) 74 5 (some 79)) 74 6 (some 80)) 74 0 (some 6)) := ((((((((hr.up (i' := 81) (by decide)).s (b := 74) (j := 1) (v := some 75) (by decide)).s (b := 74) (j := 2) (v := some 76) (by decide)).s (b := 74) (j := 3) (v := some 77) (by decide)).s (b := 74) (j := 4) (v := some 78) (by decide)).s (b := 74) (j := 5) (v := some 79) (by decide)).s (b := 74) (j := 6) (v := some 80) (by decide)).s (b := 74) (j := 0) (v := some 6) (by decide))
set_option maxHeartbeats 1000000 in
theorem in_X9_init_82 {μ : Nat → Nat → Int} {R : Nat → Nat → Option Nat} (hz : ZrI 82 μ) (hr : ZrO 82 R) : Cl PT 77 [mR 81, mR 6, mR 14] (K0.take 82, μ, R, 82, 5296) (fun r => r = (some none, (K0.take 82, μ, (m_set (m_set R 81 0 (some 6)) 81 1 (some 14)), 82, 5296))) := by
  refine ⟨_, PT_77, Nat.le_of_ble_eq_true rfl, ?_⟩
  show Rn PT none kX9_init 0 [some (mR 81), some (mR 6), some (mR 14)] [] (K0.take 82, μ, R, 82, 5296) _
  refine gn_aload_n (k' := 1) rfl rfl rfl ?_
  refine rn_nat (k' := 2) (S' := []) rfl rfl rfl ?_
  refine gn_aload_n (k' := 3) rfl rfl rfl ?_
  refine gn_aload_n (k' := 4) rfl rfl rfl ?_
  refine gn_putR (k' := 5) rfl rfl (K0t_81 (by decide)) (by decide) rfl ?_
  have o1 := hr.s (b := 81) (j := 0) (v := some 6) (by decide)
  refine gn_aload_n (k' := 6) rfl rfl rfl ?_
  refine gn_aload_n (k' := 7) rfl rfl rfl ?_
  refine gn_putR (k' := 8) rfl rfl (K0t_81 (by decide)) (by decide) rfl ?_
  have o2 := o1.s (b := 81) (j := 1) (v := some 14) (by decide)
  exact rn_vret rfl rfl
theorem in_X9_init_82_z {μ : Nat → Nat → Int} (hz : ZrI 82 μ) : ZrI 82 μ := (hz.up (i' := 82) (by decide))
theorem in_X9_init_82_o {R : Nat → Nat → Option Nat} (hr : ZrO 82 R) : ZrO 82 (m_set (m_set R 81 0 (some 6)) 81 1 (some 14)) := (((hr.up (i' := 82) (by decide)).s (b := 81) (j := 0) (v := some 6) (by decide)).s (b := 81) (j := 1) (v := some 14) (by decide))
set_option maxHeartbeats 1000000 in
theorem in_X6_init_84 {μ : Nat → Nat → Int} {R : Nat → Nat → Option Nat} (hz : ZrI 84 μ) (hr : ZrO 84 R) : Cl PT 62 [mR 83] (K0.take 84, μ, R, 84, 5311) (fun r => r = (some none, (K0.take 86, (m_set μ 83 3 (-1)), (m_set (m_set R 83 1 (some 84)) 83 2 (some 85)), 86, 5327))) := by
  refine ⟨_, PT_62, Nat.le_of_ble_eq_true rfl, ?_⟩
  show Rn PT none kX6_init 0 [some (mR 83)] [] (K0.take 84, μ, R, 84, 5311) _
  refine gn_aload_n (k' := 1) rfl rfl rfl ?_
  refine rn_nat (k' := 2) (S' := []) rfl rfl rfl ?_
  refine gn_aload_n (k' := 3) rfl rfl rfl ?_
  refine gn_bipush (k' := 4) rfl rfl ?_
  refine gn_newarray (k' := 5) (i := 84) (n := 8) (K' := K0.take 85) (c' := 85) (s' := 5319) rfl rfl rfl (by decide) rfl (fun j => hz 84 j (by decide)) rfl rfl rfl ?_
  have z1 := hz.up (i' := 85) (by decide)
  have o2 := hr.up (i' := 85) (by decide)
  refine gn_putR (k' := 6) rfl rfl (K0t_83 (by decide)) (by decide) rfl ?_
  have o3 := o2.s (b := 83) (j := 1) (v := some 84) (by decide)
  refine gn_aload_n (k' := 7) rfl rfl rfl ?_
  refine gn_bipush (k' := 8) rfl rfl ?_
  refine gn_newarray (k' := 9) (i := 85) (n := 8) (K' := K0.take 86) (c' := 86) (s' := 5327) rfl rfl rfl (by decide) rfl (fun j => z1 85 j (by decide)) rfl rfl rfl ?_
  have z4 := z1.up (i' := 86) (by decide)
  have o5 := o3.up (i' := 86) (by decide)
  refine gn_putR (k' := 10) rfl rfl (K0t_83 (by decide)) (by decide) rfl ?_
  have o6 := o5.s (b := 83) (j := 2) (v := some 85) (by decide)
  refine gn_aload_n (k' := 11) rfl rfl rfl ?_
  refine gn_iconst (k' := 12) rfl rfl ?_
  refine gn_putI (k' := 13) rfl rfl (K0t_83 (by decide)) (by decide) rfl ?_
  have z7 := z4.s (b := 83) (j := 3) (v := (-1)) (by decide)
  exact rn_vret rfl rfl
theorem in_X6_init_84_z {μ : Nat → Nat → Int} (hz : ZrI 84 μ) : ZrI 86 (m_set μ 83 3 (-1)) := ((hz.up (i' := 86) (by decide)).s (b := 83) (j := 3) (v := (-1)) (by decide))
theorem in_X6_init_84_o {R : Nat → Nat → Option Nat} (hr : ZrO 84 R) : ZrO 86 (m_set (m_set R 83 1 (some 84)) 83 2 (some 85)) := (((hr.up (i' := 86) (by decide)).s (b := 83) (j := 1) (v := some 84) (by decide)).s (b := 83) (j := 2) (v := some 85) (by decide))
set_option maxHeartbeats 1000000 in
theorem in_X6_init_89 {μ : Nat → Nat → Int} {R : Nat → Nat → Option Nat} (hz : ZrI 89 μ) (hr : ZrO 89 R) : Cl PT 62 [mR 88] (K0.take 89, μ, R, 89, 5346) (fun r => r = (some none, (K0.take 91, (m_set μ 88 3 (-1)), (m_set (m_set R 88 1 (some 89)) 88 2 (some 90)), 91, 5362))) := by
  refine ⟨_, PT_62, Nat.le_of_ble_eq_true rfl, ?_⟩
  show Rn PT none kX6_init 0 [some (mR 88)] [] (K0.take 89, μ, R, 89, 5346) _
  refine gn_aload_n (k' := 1) rfl rfl rfl ?_
  refine rn_nat (k' := 2) (S' := []) rfl rfl rfl ?_
  refine gn_aload_n (k' := 3) rfl rfl rfl ?_
  refine gn_bipush (k' := 4) rfl rfl ?_
  refine gn_newarray (k' := 5) (i := 89) (n := 8) (K' := K0.take 90) (c' := 90) (s' := 5354) rfl rfl rfl (by decide) rfl (fun j => hz 89 j (by decide)) rfl rfl rfl ?_
  have z1 := hz.up (i' := 90) (by decide)
  have o2 := hr.up (i' := 90) (by decide)
  refine gn_putR (k' := 6) rfl rfl (K0t_88 (by decide)) (by decide) rfl ?_
  have o3 := o2.s (b := 88) (j := 1) (v := some 89) (by decide)
  refine gn_aload_n (k' := 7) rfl rfl rfl ?_
  refine gn_bipush (k' := 8) rfl rfl ?_
  refine gn_newarray (k' := 9) (i := 90) (n := 8) (K' := K0.take 91) (c' := 91) (s' := 5362) rfl rfl rfl (by decide) rfl (fun j => z1 90 j (by decide)) rfl rfl rfl ?_
  have z4 := z1.up (i' := 91) (by decide)
  have o5 := o3.up (i' := 91) (by decide)
  refine gn_putR (k' := 10) rfl rfl (K0t_88 (by decide)) (by decide) rfl ?_
  have o6 := o5.s (b := 88) (j := 2) (v := some 90) (by decide)
  refine gn_aload_n (k' := 11) rfl rfl rfl ?_
  refine gn_iconst (k' := 12) rfl rfl ?_
  refine gn_putI (k' := 13) rfl rfl (K0t_88 (by decide)) (by decide) rfl ?_
  have z7 := z4.s (b := 88) (j := 3) (v := (-1)) (by decide)
  exact rn_vret rfl rfl
theorem in_X6_init_89_z {μ : Nat → Nat → Int} (hz : ZrI 89 μ) : ZrI 91 (m_set μ 88 3 (-1)) := ((hz.up (i' := 91) (by decide)).s (b := 88) (j := 3) (v := (-1)) (by decide))
theorem in_X6_init_89_o {R : Nat → Nat → Option Nat} (hr : ZrO 89 R) : ZrO 91 (m_set (m_set R 88 1 (some 89)) 88 2 (some 90)) := (((hr.up (i' := 91) (by decide)).s (b := 88) (j := 1) (v := some 89) (by decide)).s (b := 88) (j := 2) (v := some 90) (by decide))
set_option maxHeartbeats 1000000 in
theorem in_X6_init_92 {μ : Nat → Nat → Int} {R : Nat → Nat → Option Nat} (hz : ZrI 92 μ) (hr : ZrO 92 R) : Cl PT 62 [mR 91] (K0.take 92, μ, R, 92, 5367) (fun r => r = (some none, (K0.take 94, (m_set μ 91 3 (-1)), (m_set (m_set R 91 1 (some 92)) 91 2 (some 93)), 94, 5383))) := by
  refine ⟨_, PT_62, Nat.le_of_ble_eq_true rfl, ?_⟩
  show Rn PT none kX6_init 0 [some (mR 91)] [] (K0.take 92, μ, R, 92, 5367) _
  refine gn_aload_n (k' := 1) rfl rfl rfl ?_
  refine rn_nat (k' := 2) (S' := []) rfl rfl rfl ?_
  refine gn_aload_n (k' := 3) rfl rfl rfl ?_
  refine gn_bipush (k' := 4) rfl rfl ?_
  refine gn_newarray (k' := 5) (i := 92) (n := 8) (K' := K0.take 93) (c' := 93) (s' := 5375) rfl rfl rfl (by decide) rfl (fun j => hz 92 j (by decide)) rfl rfl rfl ?_
  have z1 := hz.up (i' := 93) (by decide)
  have o2 := hr.up (i' := 93) (by decide)
  refine gn_putR (k' := 6) rfl rfl (K0t_91 (by decide)) (by decide) rfl ?_
  have o3 := o2.s (b := 91) (j := 1) (v := some 92) (by decide)
  refine gn_aload_n (k' := 7) rfl rfl rfl ?_
  refine gn_bipush (k' := 8) rfl rfl ?_
  refine gn_newarray (k' := 9) (i := 93) (n := 8) (K' := K0.take 94) (c' := 94) (s' := 5383) rfl rfl rfl (by decide) rfl (fun j => z1 93 j (by decide)) rfl rfl rfl ?_
  have z4 := z1.up (i' := 94) (by decide)
  have o5 := o3.up (i' := 94) (by decide)
  refine gn_putR (k' := 10) rfl rfl (K0t_91 (by decide)) (by decide) rfl ?_
  have o6 := o5.s (b := 91) (j := 2) (v := some 93) (by decide)
  refine gn_aload_n (k' := 11) rfl rfl rfl ?_
  refine gn_iconst (k' := 12) rfl rfl ?_
  refine gn_putI (k' := 13) rfl rfl (K0t_91 (by decide)) (by decide) rfl ?_
  have z7 := z4.s (b := 91) (j := 3) (v := (-1)) (by decide)
  exact rn_vret rfl rfl
theorem in_X6_init_92_z {μ : Nat → Nat → Int} (hz : ZrI 92 μ) : ZrI 94 (m_set μ 91 3 (-1)) := ((hz.up (i' := 94) (by decide)).s (b := 91) (j := 3) (v := (-1)) (by decide))
theorem in_X6_init_92_o {R : Nat → Nat → Option Nat} (hr : ZrO 92 R) : ZrO 94 (m_set (m_set R 91 1 (some 92)) 91 2 (some 93)) := (((hr.up (i' := 94) (by decide)).s (b := 91) (j := 1) (v := some 92) (by decide)).s (b := 91) (j := 2) (v := some 93) (by decide))
set_option maxHeartbeats 1000000 in
theorem in_X6_init_95 {μ : Nat → Nat → Int} {R : Nat → Nat → Option Nat} (hz : ZrI 95 μ) (hr : ZrO 95 R) : Cl PT 62 [mR 94] (K0.take 95, μ, R, 95, 5388) (fun r => r = (some none, (K0.take 97, (m_set μ 94 3 (-1)), (m_set (m_set R 94 1 (some 95)) 94 2 (some 96)), 97, 5404))) := by
  refine ⟨_, PT_62, Nat.le_of_ble_eq_true rfl, ?_⟩
  show Rn PT none kX6_init 0 [some (mR 94)] [] (K0.take 95, μ, R, 95, 5388) _
  refine gn_aload_n (k' := 1) rfl rfl rfl ?_
  refine rn_nat (k' := 2) (S' := []) rfl rfl rfl ?_
  refine gn_aload_n (k' := 3) rfl rfl rfl ?_
  refine gn_bipush (k' := 4) rfl rfl ?_
  refine gn_newarray (k' := 5) (i := 95) (n := 8) (K' := K0.take 96) (c' := 96) (s' := 5396) rfl rfl rfl (by decide) rfl (fun j => hz 95 j (by decide)) rfl rfl rfl ?_
  have z1 := hz.up (i' := 96) (by decide)
  have o2 := hr.up (i' := 96) (by decide)
  refine gn_putR (k' := 6) rfl rfl (K0t_94 (by decide)) (by decide) rfl ?_
  have o3 := o2.s (b := 94) (j := 1) (v := some 95) (by decide)
  refine gn_aload_n (k' := 7) rfl rfl rfl ?_
  refine gn_bipush (k' := 8) rfl rfl ?_
  refine gn_newarray (k' := 9) (i := 96) (n := 8) (K' := K0.take 97) (c' := 97) (s' := 5404) rfl rfl rfl (by decide) rfl (fun j => z1 96 j (by decide)) rfl rfl rfl ?_
  have z4 := z1.up (i' := 97) (by decide)
  have o5 := o3.up (i' := 97) (by decide)
  refine gn_putR (k' := 10) rfl rfl (K0t_94 (by decide)) (by decide) rfl ?_
  have o6 := o5.s (b := 94) (j := 2) (v := some 96) (by decide)
  refine gn_aload_n (k' := 11) rfl rfl rfl ?_
  refine gn_iconst (k' := 12) rfl rfl ?_
  refine gn_putI (k' := 13) rfl rfl (K0t_94 (by decide)) (by decide) rfl ?_
  have z7 := z4.s (b := 94) (j := 3) (v := (-1)) (by decide)
  exact rn_vret rfl rfl
theorem in_X6_init_95_z {μ : Nat → Nat → Int} (hz : ZrI 95 μ) : ZrI 97 (m_set μ 94 3 (-1)) := ((hz.up (i' := 97) (by decide)).s (b := 94) (j := 3) (v := (-1)) (by decide))
theorem in_X6_init_95_o {R : Nat → Nat → Option Nat} (hr : ZrO 95 R) : ZrO 97 (m_set (m_set R 94 1 (some 95)) 94 2 (some 96)) := (((hr.up (i' := 97) (by decide)).s (b := 94) (j := 1) (v := some 95) (by decide)).s (b := 94) (j := 2) (v := some 96) (by decide))
set_option maxHeartbeats 1000000 in
theorem in_X6_init_98 {μ : Nat → Nat → Int} {R : Nat → Nat → Option Nat} (hz : ZrI 98 μ) (hr : ZrO 98 R) : Cl PT 62 [mR 97] (K0.take 98, μ, R, 98, 5409) (fun r => r = (some none, (K0.take 100, (m_set μ 97 3 (-1)), (m_set (m_set R 97 1 (some 98)) 97 2 (some 99)), 100, 5425))) := by
  refine ⟨_, PT_62, Nat.le_of_ble_eq_true rfl, ?_⟩
  show Rn PT none kX6_init 0 [some (mR 97)] [] (K0.take 98, μ, R, 98, 5409) _
  refine gn_aload_n (k' := 1) rfl rfl rfl ?_
  refine rn_nat (k' := 2) (S' := []) rfl rfl rfl ?_
  refine gn_aload_n (k' := 3) rfl rfl rfl ?_
  refine gn_bipush (k' := 4) rfl rfl ?_
  refine gn_newarray (k' := 5) (i := 98) (n := 8) (K' := K0.take 99) (c' := 99) (s' := 5417) rfl rfl rfl (by decide) rfl (fun j => hz 98 j (by decide)) rfl rfl rfl ?_
  have z1 := hz.up (i' := 99) (by decide)
  have o2 := hr.up (i' := 99) (by decide)
  refine gn_putR (k' := 6) rfl rfl (K0t_97 (by decide)) (by decide) rfl ?_
  have o3 := o2.s (b := 97) (j := 1) (v := some 98) (by decide)
  refine gn_aload_n (k' := 7) rfl rfl rfl ?_
  refine gn_bipush (k' := 8) rfl rfl ?_
  refine gn_newarray (k' := 9) (i := 99) (n := 8) (K' := K0.take 100) (c' := 100) (s' := 5425) rfl rfl rfl (by decide) rfl (fun j => z1 99 j (by decide)) rfl rfl rfl ?_
  have z4 := z1.up (i' := 100) (by decide)
  have o5 := o3.up (i' := 100) (by decide)
  refine gn_putR (k' := 10) rfl rfl (K0t_97 (by decide)) (by decide) rfl ?_
  have o6 := o5.s (b := 97) (j := 2) (v := some 99) (by decide)
  refine gn_aload_n (k' := 11) rfl rfl rfl ?_
  refine gn_iconst (k' := 12) rfl rfl ?_
  refine gn_putI (k' := 13) rfl rfl (K0t_97 (by decide)) (by decide) rfl ?_
  have z7 := z4.s (b := 97) (j := 3) (v := (-1)) (by decide)
  exact rn_vret rfl rfl
theorem in_X6_init_98_z {μ : Nat → Nat → Int} (hz : ZrI 98 μ) : ZrI 100 (m_set μ 97 3 (-1)) := ((hz.up (i' := 100) (by decide)).s (b := 97) (j := 3) (v := (-1)) (by decide))
theorem in_X6_init_98_o {R : Nat → Nat → Option Nat} (hr : ZrO 98 R) : ZrO 100 (m_set (m_set R 97 1 (some 98)) 97 2 (some 99)) := (((hr.up (i' := 100) (by decide)).s (b := 97) (j := 1) (v := some 98) (by decide)).s (b := 97) (j := 2) (v := some 99) (by decide))
set_option maxHeartbeats 1000000 in
theorem in_X6_init_101 {μ : Nat → Nat → Int} {R : Nat → Nat → Option Nat} (hz : ZrI 101 μ) (hr : ZrO 101 R) : Cl PT 62 [mR 100] (K0.take 101, μ, R, 101, 5430) (fun r => r = (some none, (K0.take 103, (m_set μ 100 3 (-1)), (m_set (m_set R 100 1 (some 101)) 100 2 (some 102)), 103, 5446))) := by
  refine ⟨_, PT_62, Nat.le_of_ble_eq_true rfl, ?_⟩
  show Rn PT none kX6_init 0 [some (mR 100)] [] (K0.take 101, μ, R, 101, 5430) _
  refine gn_aload_n (k' := 1) rfl rfl rfl ?_
  refine rn_nat (k' := 2) (S' := []) rfl rfl rfl ?_
  refine gn_aload_n (k' := 3) rfl rfl rfl ?_
  refine gn_bipush (k' := 4) rfl rfl ?_
  refine gn_newarray (k' := 5) (i := 101) (n := 8) (K' := K0.take 102) (c' := 102) (s' := 5438) rfl rfl rfl (by decide) rfl (fun j => hz 101 j (by decide)) rfl rfl rfl ?_
  have z1 := hz.up (i' := 102) (by decide)
  have o2 := hr.up (i' := 102) (by decide)
  refine gn_putR (k' := 6) rfl rfl (K0t_100 (by decide)) (by decide) rfl ?_
  have o3 := o2.s (b := 100) (j := 1) (v := some 101) (by decide)
  refine gn_aload_n (k' := 7) rfl rfl rfl ?_
  refine gn_bipush (k' := 8) rfl rfl ?_
  refine gn_newarray (k' := 9) (i := 102) (n := 8) (K' := K0.take 103) (c' := 103) (s' := 5446) rfl rfl rfl (by decide) rfl (fun j => z1 102 j (by decide)) rfl rfl rfl ?_
  have z4 := z1.up (i' := 103) (by decide)
  have o5 := o3.up (i' := 103) (by decide)
  refine gn_putR (k' := 10) rfl rfl (K0t_100 (by decide)) (by decide) rfl ?_
  have o6 := o5.s (b := 100) (j := 2) (v := some 102) (by decide)
  refine gn_aload_n (k' := 11) rfl rfl rfl ?_
  refine gn_iconst (k' := 12) rfl rfl ?_
  refine gn_putI (k' := 13) rfl rfl (K0t_100 (by decide)) (by decide) rfl ?_
  have z7 := z4.s (b := 100) (j := 3) (v := (-1)) (by decide)
  exact rn_vret rfl rfl
theorem in_X6_init_101_z {μ : Nat → Nat → Int} (hz : ZrI 101 μ) : ZrI 103 (m_set μ 100 3 (-1)) := ((hz.up (i' := 103) (by decide)).s (b := 100) (j := 3) (v := (-1)) (by decide))
theorem in_X6_init_101_o {R : Nat → Nat → Option Nat} (hr : ZrO 101 R) : ZrO 103 (m_set (m_set R 100 1 (some 101)) 100 2 (some 102)) := (((hr.up (i' := 103) (by decide)).s (b := 100) (j := 1) (v := some 101) (by decide)).s (b := 100) (j := 2) (v := some 102) (by decide))
set_option maxHeartbeats 1000000 in
theorem in_X6_init_104 {μ : Nat → Nat → Int} {R : Nat → Nat → Option Nat} (hz : ZrI 104 μ) (hr : ZrO 104 R) : Cl PT 62 [mR 103] (K0.take 104, μ, R, 104, 5451) (fun r => r = (some none, (K0.take 106, (m_set μ 103 3 (-1)), (m_set (m_set R 103 1 (some 104)) 103 2 (some 105)), 106, 5467))) := by
  refine ⟨_, PT_62, Nat.le_of_ble_eq_true rfl, ?_⟩
  show Rn PT none kX6_init 0 [some (mR 103)] [] (K0.take 104, μ, R, 104, 5451) _
  refine gn_aload_n (k' := 1) rfl rfl rfl ?_
  refine rn_nat (k' := 2) (S' := []) rfl rfl rfl ?_
  refine gn_aload_n (k' := 3) rfl rfl rfl ?_
  refine gn_bipush (k' := 4) rfl rfl ?_
  refine gn_newarray (k' := 5) (i := 104) (n := 8) (K' := K0.take 105) (c' := 105) (s' := 5459) rfl rfl rfl (by decide) rfl (fun j => hz 104 j (by decide)) rfl rfl rfl ?_
  have z1 := hz.up (i' := 105) (by decide)
  have o2 := hr.up (i' := 105) (by decide)
  refine gn_putR (k' := 6) rfl rfl (K0t_103 (by decide)) (by decide) rfl ?_
  have o3 := o2.s (b := 103) (j := 1) (v := some 104) (by decide)
  refine gn_aload_n (k' := 7) rfl rfl rfl ?_
  refine gn_bipush (k' := 8) rfl rfl ?_
  refine gn_newarray (k' := 9) (i := 105) (n := 8) (K' := K0.take 106) (c' := 106) (s' := 5467) rfl rfl rfl (by decide) rfl (fun j => z1 105 j (by decide)) rfl rfl rfl ?_
  have z4 := z1.up (i' := 106) (by decide)
  have o5 := o3.up (i' := 106) (by decide)
  refine gn_putR (k' := 10) rfl rfl (K0t_103 (by decide)) (by decide) rfl ?_
  have o6 := o5.s (b := 103) (j := 2) (v := some 105) (by decide)
  refine gn_aload_n (k' := 11) rfl rfl rfl ?_
  refine gn_iconst (k' := 12) rfl rfl ?_
  refine gn_putI (k' := 13) rfl rfl (K0t_103 (by decide)) (by decide) rfl ?_
  have z7 := z4.s (b := 103) (j := 3) (v := (-1)) (by decide)
  exact rn_vret rfl rfl
theorem in_X6_init_104_z {μ : Nat → Nat → Int} (hz : ZrI 104 μ) : ZrI 106 (m_set μ 103 3 (-1)) := ((hz.up (i' := 106) (by decide)).s (b := 103) (j := 3) (v := (-1)) (by decide))
theorem in_X6_init_104_o {R : Nat → Nat → Option Nat} (hr : ZrO 104 R) : ZrO 106 (m_set (m_set R 103 1 (some 104)) 103 2 (some 105)) := (((hr.up (i' := 106) (by decide)).s (b := 103) (j := 1) (v := some 104) (by decide)).s (b := 103) (j := 2) (v := some 105) (by decide))
set_option maxHeartbeats 1000000 in
theorem in_X6_init_107 {μ : Nat → Nat → Int} {R : Nat → Nat → Option Nat} (hz : ZrI 107 μ) (hr : ZrO 107 R) : Cl PT 62 [mR 106] (K0.take 107, μ, R, 107, 5472) (fun r => r = (some none, (K0.take 109, (m_set μ 106 3 (-1)), (m_set (m_set R 106 1 (some 107)) 106 2 (some 108)), 109, 5488))) := by
  refine ⟨_, PT_62, Nat.le_of_ble_eq_true rfl, ?_⟩
  show Rn PT none kX6_init 0 [some (mR 106)] [] (K0.take 107, μ, R, 107, 5472) _
  refine gn_aload_n (k' := 1) rfl rfl rfl ?_
  refine rn_nat (k' := 2) (S' := []) rfl rfl rfl ?_
  refine gn_aload_n (k' := 3) rfl rfl rfl ?_
  refine gn_bipush (k' := 4) rfl rfl ?_
  refine gn_newarray (k' := 5) (i := 107) (n := 8) (K' := K0.take 108) (c' := 108) (s' := 5480) rfl rfl rfl (by decide) rfl (fun j => hz 107 j (by decide)) rfl rfl rfl ?_
  have z1 := hz.up (i' := 108) (by decide)
  have o2 := hr.up (i' := 108) (by decide)
  refine gn_putR (k' := 6) rfl rfl (K0t_106 (by decide)) (by decide) rfl ?_
  have o3 := o2.s (b := 106) (j := 1) (v := some 107) (by decide)
  refine gn_aload_n (k' := 7) rfl rfl rfl ?_
  refine gn_bipush (k' := 8) rfl rfl ?_
  refine gn_newarray (k' := 9) (i := 108) (n := 8) (K' := K0.take 109) (c' := 109) (s' := 5488) rfl rfl rfl (by decide) rfl (fun j => z1 108 j (by decide)) rfl rfl rfl ?_
  have z4 := z1.up (i' := 109) (by decide)
  have o5 := o3.up (i' := 109) (by decide)
  refine gn_putR (k' := 10) rfl rfl (K0t_106 (by decide)) (by decide) rfl ?_
  have o6 := o5.s (b := 106) (j := 2) (v := some 108) (by decide)
  refine gn_aload_n (k' := 11) rfl rfl rfl ?_
  refine gn_iconst (k' := 12) rfl rfl ?_
  refine gn_putI (k' := 13) rfl rfl (K0t_106 (by decide)) (by decide) rfl ?_
  have z7 := z4.s (b := 106) (j := 3) (v := (-1)) (by decide)
  exact rn_vret rfl rfl
theorem in_X6_init_107_z {μ : Nat → Nat → Int} (hz : ZrI 107 μ) : ZrI 109 (m_set μ 106 3 (-1)) := ((hz.up (i' := 109) (by decide)).s (b := 106) (j := 3) (v := (-1)) (by decide))
theorem in_X6_init_107_o {R : Nat → Nat → Option Nat} (hr : ZrO 107 R) : ZrO 109 (m_set (m_set R 106 1 (some 107)) 106 2 (some 108)) := (((hr.up (i' := 109) (by decide)).s (b := 106) (j := 1) (v := some 107) (by decide)).s (b := 106) (j := 2) (v := some 108) (by decide))
set_option maxHeartbeats 1000000 in
theorem in_X6_init_110 {μ : Nat → Nat → Int} {R : Nat → Nat → Option Nat} (hz : ZrI 110 μ) (hr : ZrO 110 R) : Cl PT 62 [mR 109] (K0.take 110, μ, R, 110, 5493) (fun r => r = (some none, (K0.take 112, (m_set μ 109 3 (-1)), (m_set (m_set R 109 1 (some 110)) 109 2 (some 111)), 112, 5509))) := by
  refine ⟨_, PT_62, Nat.le_of_ble_eq_true rfl, ?_⟩
  show Rn PT none kX6_init 0 [some (mR 109)] [] (K0.take 110, μ, R, 110, 5493) _
  refine gn_aload_n (k' := 1) rfl rfl rfl ?_
  refine rn_nat (k' := 2) (S' := []) rfl rfl rfl ?_
  refine gn_aload_n (k' := 3) rfl rfl rfl ?_
  refine gn_bipush (k' := 4) rfl rfl ?_
  refine gn_newarray (k' := 5) (i := 110) (n := 8) (K' := K0.take 111) (c' := 111) (s' := 5501) rfl rfl rfl (by decide) rfl (fun j => hz 110 j (by decide)) rfl rfl rfl ?_
  have z1 := hz.up (i' := 111) (by decide)
  have o2 := hr.up (i' := 111) (by decide)
  refine gn_putR (k' := 6) rfl rfl (K0t_109 (by decide)) (by decide) rfl ?_
  have o3 := o2.s (b := 109) (j := 1) (v := some 110) (by decide)
  refine gn_aload_n (k' := 7) rfl rfl rfl ?_
  refine gn_bipush (k' := 8) rfl rfl ?_
  refine gn_newarray (k' := 9) (i := 111) (n := 8) (K' := K0.take 112) (c' := 112) (s' := 5509) rfl rfl rfl (by decide) rfl (fun j => z1 111 j (by decide)) rfl rfl rfl ?_
  have z4 := z1.up (i' := 112) (by decide)
  have o5 := o3.up (i' := 112) (by decide)
  refine gn_putR (k' := 10) rfl rfl (K0t_109 (by decide)) (by decide) rfl ?_
  have o6 := o5.s (b := 109) (j := 2) (v := some 111) (by decide)
  refine gn_aload_n (k' := 11) rfl rfl rfl ?_
  refine gn_iconst (k' := 12) rfl rfl ?_
  refine gn_putI (k' := 13) rfl rfl (K0t_109 (by decide)) (by decide) rfl ?_
  have z7 := z4.s (b := 109) (j := 3) (v := (-1)) (by decide)
  exact rn_vret rfl rfl
theorem in_X6_init_110_z {μ : Nat → Nat → Int} (hz : ZrI 110 μ) : ZrI 112 (m_set μ 109 3 (-1)) := ((hz.up (i' := 112) (by decide)).s (b := 109) (j := 3) (v := (-1)) (by decide))
theorem in_X6_init_110_o {R : Nat → Nat → Option Nat} (hr : ZrO 110 R) : ZrO 112 (m_set (m_set R 109 1 (some 110)) 109 2 (some 111)) := (((hr.up (i' := 112) (by decide)).s (b := 109) (j := 1) (v := some 110) (by decide)).s (b := 109) (j := 2) (v := some 111) (by decide))
set_option maxHeartbeats 1000000 in
theorem in_X0_init_83 {μ : Nat → Nat → Int} {R : Nat → Nat → Option Nat} (hz : ZrI 83 μ) (hr : ZrO 83 R) : Cl PT 0 [mR 82, mR 6, mR 66, mR 14] (K0.take 83, μ, R, 83, 5306) (fun r => r = (some none, (K0.take 112, (m_set (m_set (m_set (m_set (m_set (m_set (m_set (m_set (m_set μ 83 3 (-1)) 88 3 (-1)) 91 3 (-1)) 94 3 (-1)) 97 3 (-1)) 100 3 (-1)) 103 3 (-1)) 106 3 (-1)) 109 3 (-1)), (m_set (m_set (m_set (m_set (m_set (m_set (m_set (m_set (m_set (m_set (m_set (m_set (m_set (m_set (m_set (m_set (m_set (m_set (m_set (m_set (m_set (m_set (m_set (m_set (m_set (m_set (m_set (m_set (m_set (m_set (m_set (m_set R 83 1 (some 84)) 83 2 (some 85)) 82 3 (some 83)) 82 4 (some 86)) 82 8 (some 87)) 82 0 (some 6)) 82 1 (some 66)) 82 2 (some 14)) 88 1 (some 89)) 88 2 (some 90)) 86 0 (some 88)) 91 1 (some 92)) 91 2 (some 93)) 86 1 (some 91)) 94 1 (some 95)) 94 2 (some 96)) 86 2 (some 94)) 97 1 (some 98)) 97 2 (some 99)) 86 3 (some 97)) 100 1 (some 101)) 100 2 (some 102)) 86 4 (some 100)) 103 1 (some 104)) 103 2 (some 105)) 86 5 (some 103)) 106 1 (some 107)) 106 2 (some 108)) 86 6 (some 106)) 109 1 (some 110)) 109 2 (some 111)) 86 7 (some 109)), 112, 5509))) := by
  refine ⟨_, PT_0, Nat.le_of_ble_eq_true rfl, ?_⟩
  show Rn PT none kX0_init 0 [some (mR 82), some (mR 6), some (mR 66), some (mR 14), none] [] (K0.take 83, μ, R, 83, 5306) _
  refine gn_aload_n (k' := 1) rfl rfl rfl ?_
  refine rn_nat (k' := 2) (S' := []) rfl rfl rfl ?_
  refine gn_aload_n (k' := 3) rfl rfl rfl ?_
  refine gn_new (k' := 4) (i := 83) (n := 5) (K' := K0.take 84) (c' := 84) (s' := 5311) rfl rfl rfl rfl rfl (by decide) (fun j => hz 83 j (by decide)) (fun j => hr 83 j (by decide)) rfl rfl rfl ?_
  have z1 := hz.up (i' := 84) (by decide)
  have o2 := hr.up (i' := 84) (by decide)
  refine gn_dupR (k' := 5) rfl rfl ?_
  refine rn_callP (k' := 6) (y := 62) (vs := [mR 83]) (S' := [mR 83, mR 82]) (v := none) rfl rfl rfl (in_X6_init_84 z1 o2 ) ?_
  show Rn PT none kX0_init 6 [some (mR 82), some (mR 6), some (mR 66), some (mR 14), none] [mR 83, mR 82] _ _
  have z3 := in_X6_init_84_z z1
  have o4 := in_X6_init_84_o o2
  refine gn_putR (k' := 7) rfl rfl (K0t_82 (by decide)) (by decide) rfl ?_
  have o5 := o4.s (b := 82) (j := 3) (v := some 83) (by decide)
  refine gn_aload_n (k' := 8) rfl rfl rfl ?_
  refine gn_bipush (k' := 9) rfl rfl ?_
  refine gn_anewarray (k' := 10) (i := 86) (n := 8) (K' := K0.take 87) (c' := 87) (s' := 5335) rfl rfl rfl (by decide) rfl (fun j => o5 86 j (by decide)) rfl rfl rfl ?_
  have z6 := z3.up (i' := 87) (by decide)
  have o7 := o5.up (i' := 87) (by decide)
  refine gn_putR (k' := 11) rfl rfl (K0t_82 (by decide)) (by decide) rfl ?_
  have o8 := o7.s (b := 82) (j := 4) (v := some 86) (by decide)
  refine gn_aload_n (k' := 12) rfl rfl rfl ?_
  refine gn_bipush (k' := 13) rfl rfl ?_
  refine gn_newarray (k' := 14) (i := 87) (n := 6) (K' := K0.take 88) (c' := 88) (s' := 5341) rfl rfl rfl (by decide) rfl (fun j => z6 87 j (by decide)) rfl rfl rfl ?_
  have z9 := z6.up (i' := 88) (by decide)
  have o10 := o8.up (i' := 88) (by decide)
  refine gn_putR (k' := 15) rfl rfl (K0t_82 (by decide)) (by decide) rfl ?_
  have o11 := o10.s (b := 82) (j := 8) (v := some 87) (by decide)
  refine gn_aload_n (k' := 16) rfl rfl rfl ?_
  refine gn_aload_n (k' := 17) rfl rfl rfl ?_
  refine gn_putR (k' := 18) rfl rfl (K0t_82 (by decide)) (by decide) rfl ?_
  have o12 := o11.s (b := 82) (j := 0) (v := some 6) (by decide)
  refine gn_aload_n (k' := 19) rfl rfl rfl ?_
  refine gn_aload_n (k' := 20) rfl rfl rfl ?_
  refine gn_putR (k' := 21) rfl rfl (K0t_82 (by decide)) (by decide) rfl ?_
  have o13 := o12.s (b := 82) (j := 1) (v := some 66) (by decide)
  refine gn_aload_n (k' := 22) rfl rfl rfl ?_
  refine gn_aload_n (k' := 23) rfl rfl rfl ?_
  refine gn_putR (k' := 24) rfl rfl (K0t_82 (by decide)) (by decide) rfl ?_
  have o14 := o13.s (b := 82) (j := 2) (v := some 14) (by decide)
  refine gn_iconst (k' := 25) rfl rfl ?_
  refine gn_istore (k' := 26) (L' := [some (mR 82), some (mR 6), some (mR 66), some (mR 14), some (mI 0)]) rfl rfl (Nat.le_of_ble_eq_true rfl) rfl ?_
  refine gn_iload (k' := 27) rfl rfl rfl ?_
  refine gn_bipush (k' := 28) rfl rfl ?_
  refine gn_icmp_ge (k' := 29) rfl rfl (fun hc => absurd hc (by decide)) (fun _ => ?_)
  refine gn_aload_n (k' := 30) rfl rfl rfl ?_
  refine gn_getR (k' := 31) rfl rfl (K0t_82 (by decide)) (by decide) rfl rfl ?_
  refine gn_iload (k' := 32) rfl rfl rfl ?_
  refine gn_new (k' := 33) (i := 88) (n := 5) (K' := K0.take 89) (c' := 89) (s' := 5346) rfl rfl rfl rfl rfl (by decide) (fun j => z9 88 j (by decide)) (fun j => o14 88 j (by decide)) rfl rfl rfl ?_
  have z15 := z9.up (i' := 89) (by decide)
  have o16 := o14.up (i' := 89) (by decide)
  refine gn_dupR (k' := 34) rfl rfl ?_
  refine rn_callP (k' := 35) (y := 62) (vs := [mR 88]) (S' := [mR 88, mI 0, mR 86]) (v := none) rfl rfl rfl (in_X6_init_89 z15 o16 ) ?_
  show Rn PT none kX0_init 35 [some (mR 82), some (mR 6), some (mR 66), some (mR 14), some (mI 0)] [mR 88, mI 0, mR 86] _ _
  have z17 := in_X6_init_89_z z15
  have o18 := in_X6_init_89_o o16
  refine gn_aastore (k' := 36) rfl rfl (K0t_86 (by decide)) (K0t_88 (by decide)) (by decide) (by decide) (by decide) ?_
  have o19 := o18.s (b := 86) (j := 0) (v := some 88) (by decide)
  refine gn_iinc (k' := 37) (L' := [some (mR 82), some (mR 6), some (mR 66), some (mR 14), some (mI 1)]) rfl rfl rfl (by decide) rfl ?_
  refine gn_goto rfl ?_
  refine gn_iload (k' := 27) rfl rfl rfl ?_
  refine gn_bipush (k' := 28) rfl rfl ?_
  refine gn_icmp_ge (k' := 29) rfl rfl (fun hc => absurd hc (by decide)) (fun _ => ?_)
  refine gn_aload_n (k' := 30) rfl rfl rfl ?_
  refine gn_getR (k' := 31) rfl rfl (K0t_82 (by decide)) (by decide) rfl rfl ?_
  refine gn_iload (k' := 32) rfl rfl rfl ?_
  refine gn_new (k' := 33) (i := 91) (n := 5) (K' := K0.take 92) (c' := 92) (s' := 5367) rfl rfl rfl rfl rfl (by decide) (fun j => z17 91 j (by decide)) (fun j => o19 91 j (by decide)) rfl rfl rfl ?_
  have z20 := z17.up (i' := 92) (by decide)
  have o21 := o19.up (i' := 92) (by decide)
  refine gn_dupR (k' := 34) rfl rfl ?_
  refine rn_callP (k' := 35) (y := 62) (vs := [mR 91]) (S' := [mR 91, mI 1, mR 86]) (v := none) rfl rfl rfl (in_X6_init_92 z20 o21 ) ?_
  show Rn PT none kX0_init 35 [some (mR 82), some (mR 6), some (mR 66), some (mR 14), some (mI 1)] [mR 91, mI 1, mR 86] _ _
  have z22 := in_X6_init_92_z z20
  have o23 := in_X6_init_92_o o21
  refine gn_aastore (k' := 36) rfl rfl (K0t_86 (by decide)) (K0t_91 (by decide)) (by decide) (by decide) (by decide) ?_
  have o24 := o23.s (b := 86) (j := 1) (v := some 91) (by decide)
  refine gn_iinc (k' := 37) (L' := [some (mR 82), some (mR 6), some (mR 66), some (mR 14), some (mI 2)]) rfl rfl rfl (by decide) rfl ?_
  refine gn_goto rfl ?_
  refine gn_iload (k' := 27) rfl rfl rfl ?_
  refine gn_bipush (k' := 28) rfl rfl ?_
  refine gn_icmp_ge (k' := 29) rfl rfl (fun hc => absurd hc (by decide)) (fun _ => ?_)
  refine gn_aload_n (k' := 30) rfl rfl rfl ?_
  refine gn_getR (k' := 31) rfl rfl (K0t_82 (by decide)) (by decide) rfl rfl ?_
  refine gn_iload (k' := 32) rfl rfl rfl ?_
  refine gn_new (k' := 33) (i := 94) (n := 5) (K' := K0.take 95) (c' := 95) (s' := 5388) rfl rfl rfl rfl rfl (by decide) (fun j => z22 94 j (by decide)) (fun j => o24 94 j (by decide)) rfl rfl rfl ?_
  have z25 := z22.up (i' := 95) (by decide)
  have o26 := o24.up (i' := 95) (by decide)
  refine gn_dupR (k' := 34) rfl rfl ?_
  refine rn_callP (k' := 35) (y := 62) (vs := [mR 94]) (S' := [mR 94, mI 2, mR 86]) (v := none) rfl rfl rfl (in_X6_init_95 z25 o26 ) ?_
  show Rn PT none kX0_init 35 [some (mR 82), some (mR 6), some (mR 66), some (mR 14), some (mI 2)] [mR 94, mI 2, mR 86] _ _
  have z27 := in_X6_init_95_z z25
  have o28 := in_X6_init_95_o o26
  refine gn_aastore (k' := 36) rfl rfl (K0t_86 (by decide)) (K0t_94 (by decide)) (by decide) (by decide) (by decide) ?_
  have o29 := o28.s (b := 86) (j := 2) (v := some 94) (by decide)
  refine gn_iinc (k' := 37) (L' := [some (mR 82), some (mR 6), some (mR 66), some (mR 14), some (mI 3)]) rfl rfl rfl (by decide) rfl ?_
  refine gn_goto rfl ?_
  refine gn_iload (k' := 27) rfl rfl rfl ?_
  refine gn_bipush (k' := 28) rfl rfl ?_
  refine gn_icmp_ge (k' := 29) rfl rfl (fun hc => absurd hc (by decide)) (fun _ => ?_)
  refine gn_aload_n (k' := 30) rfl rfl rfl ?_
  refine gn_getR (k' := 31) rfl rfl (K0t_82 (by decide)) (by decide) rfl rfl ?_
  refine gn_iload (k' := 32) rfl rfl rfl ?_
  refine gn_new (k' := 33) (i := 97) (n := 5) (K' := K0.take 98) (c' := 98) (s' := 5409) rfl rfl rfl rfl rfl (by decide) (fun j => z27 97 j (by decide)) (fun j => o29 97 j (by decide)) rfl rfl rfl ?_
  have z30 := z27.up (i' := 98) (by decide)
  have o31 := o29.up (i' := 98) (by decide)
  refine gn_dupR (k' := 34) rfl rfl ?_
  refine rn_callP (k' := 35) (y := 62) (vs := [mR 97]) (S' := [mR 97, mI 3, mR 86]) (v := none) rfl rfl rfl (in_X6_init_98 z30 o31 ) ?_
  show Rn PT none kX0_init 35 [some (mR 82), some (mR 6), some (mR 66), some (mR 14), some (mI 3)] [mR 97, mI 3, mR 86] _ _
  have z32 := in_X6_init_98_z z30
  have o33 := in_X6_init_98_o o31
  refine gn_aastore (k' := 36) rfl rfl (K0t_86 (by decide)) (K0t_97 (by decide)) (by decide) (by decide) (by decide) ?_
  have o34 := o33.s (b := 86) (j := 3) (v := some 97) (by decide)
  refine gn_iinc (k' := 37) (L' := [some (mR 82), some (mR 6), some (mR 66), some (mR 14), some (mI 4)]) rfl rfl rfl (by decide) rfl ?_
  refine gn_goto rfl ?_
  refine gn_iload (k' := 27) rfl rfl rfl ?_
  refine gn_bipush (k' := 28) rfl rfl ?_
  refine gn_icmp_ge (k' := 29) rfl rfl (fun hc => absurd hc (by decide)) (fun _ => ?_)
  refine gn_aload_n (k' := 30) rfl rfl rfl ?_
  refine gn_getR (k' := 31) rfl rfl (K0t_82 (by decide)) (by decide) rfl rfl ?_
  refine gn_iload (k' := 32) rfl rfl rfl ?_
  refine gn_new (k' := 33) (i := 100) (n := 5) (K' := K0.take 101) (c' := 101) (s' := 5430) rfl rfl rfl rfl rfl (by decide) (fun j => z32 100 j (by decide)) (fun j => o34 100 j (by decide)) rfl rfl rfl ?_
  have z35 := z32.up (i' := 101) (by decide)
  have o36 := o34.up (i' := 101) (by decide)
  refine gn_dupR (k' := 34) rfl rfl ?_
  refine rn_callP (k' := 35) (y := 62) (vs := [mR 100]) (S' := [mR 100, mI 4, mR 86]) (v := none) rfl rfl rfl (in_X6_init_101 z35 o36 ) ?_
  show Rn PT none kX0_init 35 [some (mR 82), some (mR 6), some (mR 66), some (mR 14), some (mI 4)] [mR 100, mI 4, mR 86] _ _
  have z37 := in_X6_init_101_z z35
  have o38 := in_X6_init_101_o o36
  refine gn_aastore (k' := 36) rfl rfl (K0t_86 (by decide)) (K0t_100 (by decide)) (by decide) (by decide) (by decide) ?_
  have o39 := o38.s (b := 86) (j := 4) (v := some 100) (by decide)
  refine gn_iinc (k' := 37) (L' := [some (mR 82), some (mR 6), some (mR 66), some (mR 14), some (mI 5)]) rfl rfl rfl (by decide) rfl ?_
  refine gn_goto rfl ?_
  refine gn_iload (k' := 27) rfl rfl rfl ?_
  refine gn_bipush (k' := 28) rfl rfl ?_
  refine gn_icmp_ge (k' := 29) rfl rfl (fun hc => absurd hc (by decide)) (fun _ => ?_)
  refine gn_aload_n (k' := 30) rfl rfl rfl ?_
  refine gn_getR (k' := 31) rfl rfl (K0t_82 (by decide)) (by decide) rfl rfl ?_
  refine gn_iload (k' := 32) rfl rfl rfl ?_
  refine gn_new (k' := 33) (i := 103) (n := 5) (K' := K0.take 104) (c' := 104) (s' := 5451) rfl rfl rfl rfl rfl (by decide) (fun j => z37 103 j (by decide)) (fun j => o39 103 j (by decide)) rfl rfl rfl ?_
  have z40 := z37.up (i' := 104) (by decide)
  have o41 := o39.up (i' := 104) (by decide)
  refine gn_dupR (k' := 34) rfl rfl ?_
  refine rn_callP (k' := 35) (y := 62) (vs := [mR 103]) (S' := [mR 103, mI 5, mR 86]) (v := none) rfl rfl rfl (in_X6_init_104 z40 o41 ) ?_
  show Rn PT none kX0_init 35 [some (mR 82), some (mR 6), some (mR 66), some (mR 14), some (mI 5)] [mR 103, mI 5, mR 86] _ _
  have z42 := in_X6_init_104_z z40
  have o43 := in_X6_init_104_o o41
  refine gn_aastore (k' := 36) rfl rfl (K0t_86 (by decide)) (K0t_103 (by decide)) (by decide) (by decide) (by decide) ?_
  have o44 := o43.s (b := 86) (j := 5) (v := some 103) (by decide)
  refine gn_iinc (k' := 37) (L' := [some (mR 82), some (mR 6), some (mR 66), some (mR 14), some (mI 6)]) rfl rfl rfl (by decide) rfl ?_
  refine gn_goto rfl ?_
  refine gn_iload (k' := 27) rfl rfl rfl ?_
  refine gn_bipush (k' := 28) rfl rfl ?_
  refine gn_icmp_ge (k' := 29) rfl rfl (fun hc => absurd hc (by decide)) (fun _ => ?_)
  refine gn_aload_n (k' := 30) rfl rfl rfl ?_
  refine gn_getR (k' := 31) rfl rfl (K0t_82 (by decide)) (by decide) rfl rfl ?_
  refine gn_iload (k' := 32) rfl rfl rfl ?_
  refine gn_new (k' := 33) (i := 106) (n := 5) (K' := K0.take 107) (c' := 107) (s' := 5472) rfl rfl rfl rfl rfl (by decide) (fun j => z42 106 j (by decide)) (fun j => o44 106 j (by decide)) rfl rfl rfl ?_
  have z45 := z42.up (i' := 107) (by decide)
  have o46 := o44.up (i' := 107) (by decide)
  refine gn_dupR (k' := 34) rfl rfl ?_
  refine rn_callP (k' := 35) (y := 62) (vs := [mR 106]) (S' := [mR 106, mI 6, mR 86]) (v := none) rfl rfl rfl (in_X6_init_107 z45 o46 ) ?_
  show Rn PT none kX0_init 35 [some (mR 82), some (mR 6), some (mR 66), some (mR 14), some (mI 6)] [mR 106, mI 6, mR 86] _ _
  have z47 := in_X6_init_107_z z45
  have o48 := in_X6_init_107_o o46
  refine gn_aastore (k' := 36) rfl rfl (K0t_86 (by decide)) (K0t_106 (by decide)) (by decide) (by decide) (by decide) ?_
  have o49 := o48.s (b := 86) (j := 6) (v := some 106) (by decide)
  refine gn_iinc (k' := 37) (L' := [some (mR 82), some (mR 6), some (mR 66), some (mR 14), some (mI 7)]) rfl rfl rfl (by decide) rfl ?_
  refine gn_goto rfl ?_
  refine gn_iload (k' := 27) rfl rfl rfl ?_
  refine gn_bipush (k' := 28) rfl rfl ?_
  refine gn_icmp_ge (k' := 29) rfl rfl (fun hc => absurd hc (by decide)) (fun _ => ?_)
  refine gn_aload_n (k' := 30) rfl rfl rfl ?_
  refine gn_getR (k' := 31) rfl rfl (K0t_82 (by decide)) (by decide) rfl rfl ?_
  refine gn_iload (k' := 32) rfl rfl rfl ?_
  refine gn_new (k' := 33) (i := 109) (n := 5) (K' := K0.take 110) (c' := 110) (s' := 5493) rfl rfl rfl rfl rfl (by decide) (fun j => z47 109 j (by decide)) (fun j => o49 109 j (by decide)) rfl rfl rfl ?_
  have z50 := z47.up (i' := 110) (by decide)
  have o51 := o49.up (i' := 110) (by decide)
  refine gn_dupR (k' := 34) rfl rfl ?_
  refine rn_callP (k' := 35) (y := 62) (vs := [mR 109]) (S' := [mR 109, mI 7, mR 86]) (v := none) rfl rfl rfl (in_X6_init_110 z50 o51 ) ?_
  show Rn PT none kX0_init 35 [some (mR 82), some (mR 6), some (mR 66), some (mR 14), some (mI 7)] [mR 109, mI 7, mR 86] _ _
  have z52 := in_X6_init_110_z z50
  have o53 := in_X6_init_110_o o51
  refine gn_aastore (k' := 36) rfl rfl (K0t_86 (by decide)) (K0t_109 (by decide)) (by decide) (by decide) (by decide) ?_
  have o54 := o53.s (b := 86) (j := 7) (v := some 109) (by decide)
  refine gn_iinc (k' := 37) (L' := [some (mR 82), some (mR 6), some (mR 66), some (mR 14), some (mI 8)]) rfl rfl rfl (by decide) rfl ?_
  refine gn_goto rfl ?_
  refine gn_iload (k' := 27) rfl rfl rfl ?_
  refine gn_bipush (k' := 28) rfl rfl ?_
  refine gn_icmp_ge (k' := 29) rfl rfl (fun _ => ?_) (fun hc => absurd hc (by decide))
  exact rn_vret rfl rfl
theorem in_X0_init_83_z {μ : Nat → Nat → Int} (hz : ZrI 83 μ) : ZrI 112 (m_set (m_set (m_set (m_set (m_set (m_set (m_set (m_set (m_set μ 83 3 (-1)) 88 3 (-1)) 91 3 (-1)) 94 3 (-1)) 97 3 (-1)) 100 3 (-1)) 103 3 (-1)) 106 3 (-1)) 109 3 (-1)) := ((((((((((hz.up (i' := 112) (by decide)).s (b := 83) (j := 3) (v := (-1)) (by decide)).s (b := 88) (j := 3) (v := (-1)) (by decide)).s (b := 91) (j := 3) (v := (-1)) (by decide)).s (b := 94) (j := 3) (v := (-1)) (by decide)).s (b := 97) (j := 3) (v := (-1)) (by decide)).s (b := 100) (j := 3) (v := (-1)) (by decide)).s (b := 103) (j := 3) (v := (-1)) (by decide)).s (b := 106) (j := 3) (v := (-1)) (by decide)).s (b := 109) (j := 3) (v := (-1)) (by decide))
theorem in_X0_init_83_o {R : Nat → Nat → Option Nat} (hr : ZrO 83 R) : ZrO 112 (m_set (m_set (m_set (m_set (m_set (m_set (m_set (m_set (m_set (m_set (m_set (m_set (m_set (m_set (m_set (m_set (m_set (m_set (m_set (m_set (m_set (m_set (m_set (m_set (m_set (m_set (m_set (m_set (m_set (m_set (m_set (m_set R 83 1 (some 84)) 83 2 (some 85)) 82 3 (some 83)) 82 4 (some 86)) 82 8 (some 87)) 82 0 (some 6)) 82 1 (some 66)) 82 2 (some 14)) 88 1 (some 89)) 88 2 (some 90)) 86 0 (some 88)) 91 1 (some 92)) 91 2 (some 93)) 86 1 (some 91)) 94 1 (some 95)) 94 2 (some 96)) 86 2 (some 94)) 97 1 (some 98)) 97 2 (some 99)) 86 3 (some 97)) 100 1 (some 101)) 100 2 (some 102)) 86 4 (some 100)) 103 1 (some 104)) 103 2 (some 105)) 86 5 (some 103)) 106 1 (some 107)) 106 2 (some 108)) 86 6 (some 106)) 109 1 (some 110)) 109 2 (some 111)) 86 7 (some 109)) := (((((((((((((((((((((((((((((((((hr.up (i' := 112) (by decide)).s (b := 83) (j := 1) (v := some 84) (by decide)).s (b := 83) (j := 2) (v := some 85) (by decide)).s (b := 82) (j := 3) (v := some 83) (by decide)).s (b := 82) (j := 4) (v := some 86) (by decide)).s (b := 82) (j := 8) (v := some 87) (by decide)).s (b := 82) (j := 0) (v := some 6) (by decide)).s (b := 82) (j := 1) (v := some 66) (by decide)).s (b := 82) (j := 2) (v := some 14) (by decide)).s (b := 88) (j := 1) (v := some 89) (by decide)).s (b := 88) (j := 2) (v := some 90) (by decide)).s (b := 86) (j := 0) (v := some 88) (by decide)).s (b := 91) (j := 1) (v := some 92) (by decide)).s (b := 91) (j := 2) (v := some 93) (by decide)).s (b := 86) (j := 1) (v := some 91) (by decide)).s (b := 94) (j := 1) (v := some 95) (by decide)).s (b := 94) (j := 2) (v := some 96) (by decide)).s (b := 86) (j := 2) (v := some 94) (by decide)).s (b := 97) (j := 1) (v := some 98) (by decide)).s (b := 97) (j := 2) (v := some 99) (by decide)).s (b := 86) (j := 3) (v := some 97) (by decide)).s (b := 100) (j := 1) (v := some 101) (by decide)).s (b := 100) (j := 2) (v := some 102) (by decide)).s (b := 86) (j := 4) (v := some 100) (by decide)).s (b := 103) (j := 1) (v := some 104) (by decide)).s (b := 103) (j := 2) (v := some 105) (by decide)).s (b := 86) (j := 5) (v := some 103) (by decide)).s (b := 106) (j := 1) (v := some 107) (by decide)).s (b := 106) (j := 2) (v := some 108) (by decide)).s (b := 86) (j := 6) (v := some 106) (by decide)).s (b := 109) (j := 1) (v := some 110) (by decide)).s (b := 109) (j := 2) (v := some 111) (by decide)).s (b := 86) (j := 7) (v := some 109) (by decide))
set_option maxHeartbeats 1000000 in
theorem in_X8_init_113 {μ : Nat → Nat → Int} {R : Nat → Nat → Option Nat} (hz : ZrI 113 μ) (hr : ZrO 113 R) : Cl PT 71 [mR 112, mR 6, mR 14] (K0.take 113, μ, R, 113, 5515) (fun r => r = (some none, (K0.take 116, μ, (m_set (m_set (m_set (m_set (m_set R 112 2 (some 113)) 112 3 (some 114)) 112 4 (some 115)) 112 0 (some 6)) 112 1 (some 14)), 116, 7579))) := by
  refine ⟨_, PT_71, Nat.le_of_ble_eq_true rfl, ?_⟩
  show Rn PT none kX8_init 0 [some (mR 112), some (mR 6), some (mR 14)] [] (K0.take 113, μ, R, 113, 5515) _
  refine gn_aload_n (k' := 1) rfl rfl rfl ?_
  refine rn_nat (k' := 2) (S' := []) rfl rfl rfl ?_
  refine gn_aload_n (k' := 3) rfl rfl rfl ?_
  refine gn_sipush (k' := 4) rfl rfl ?_
  refine gn_newarray (k' := 5) (i := 113) (n := 2048) (K' := K0.take 114) (c' := 114) (s' := 7563) rfl rfl rfl (by decide) rfl (fun j => hz 113 j (by decide)) rfl rfl rfl ?_
  have z1 := hz.up (i' := 114) (by decide)
  have o2 := hr.up (i' := 114) (by decide)
  refine gn_putR (k' := 6) rfl rfl (K0t_112 (by decide)) (by decide) rfl ?_
  have o3 := o2.s (b := 112) (j := 2) (v := some 113) (by decide)
  refine gn_aload_n (k' := 7) rfl rfl rfl ?_
  refine gn_bipush (k' := 8) rfl rfl ?_
  refine gn_newarray (k' := 9) (i := 114) (n := 8) (K' := K0.take 115) (c' := 115) (s' := 7571) rfl rfl rfl (by decide) rfl (fun j => z1 114 j (by decide)) rfl rfl rfl ?_
  have z4 := z1.up (i' := 115) (by decide)
  have o5 := o3.up (i' := 115) (by decide)
  refine gn_putR (k' := 10) rfl rfl (K0t_112 (by decide)) (by decide) rfl ?_
  have o6 := o5.s (b := 112) (j := 3) (v := some 114) (by decide)
  refine gn_aload_n (k' := 11) rfl rfl rfl ?_
  refine gn_bipush (k' := 12) rfl rfl ?_
  refine gn_newarray (k' := 13) (i := 115) (n := 8) (K' := K0.take 116) (c' := 116) (s' := 7579) rfl rfl rfl (by decide) rfl (fun j => z4 115 j (by decide)) rfl rfl rfl ?_
  have z7 := z4.up (i' := 116) (by decide)
  have o8 := o6.up (i' := 116) (by decide)
  refine gn_putR (k' := 14) rfl rfl (K0t_112 (by decide)) (by decide) rfl ?_
  have o9 := o8.s (b := 112) (j := 4) (v := some 115) (by decide)
  refine gn_aload_n (k' := 15) rfl rfl rfl ?_
  refine gn_aload_n (k' := 16) rfl rfl rfl ?_
  refine gn_putR (k' := 17) rfl rfl (K0t_112 (by decide)) (by decide) rfl ?_
  have o10 := o9.s (b := 112) (j := 0) (v := some 6) (by decide)
  refine gn_aload_n (k' := 18) rfl rfl rfl ?_
  refine gn_aload_n (k' := 19) rfl rfl rfl ?_
  refine gn_putR (k' := 20) rfl rfl (K0t_112 (by decide)) (by decide) rfl ?_
  have o11 := o10.s (b := 112) (j := 1) (v := some 14) (by decide)
  exact rn_vret rfl rfl
theorem in_X8_init_113_z {μ : Nat → Nat → Int} (hz : ZrI 113 μ) : ZrI 116 μ := (hz.up (i' := 116) (by decide))
theorem in_X8_init_113_o {R : Nat → Nat → Option Nat} (hr : ZrO 113 R) : ZrO 116 (m_set (m_set (m_set (m_set (m_set R 112 2 (some 113)) 112 3 (some 114)) 112 4 (some 115)) 112 0 (some 6)) 112 1 (some 14)) := ((((((hr.up (i' := 116) (by decide)).s (b := 112) (j := 2) (v := some 113) (by decide)).s (b := 112) (j := 3) (v := some 114) (by decide)).s (b := 112) (j := 4) (v := some 115) (by decide)).s (b := 112) (j := 0) (v := some 6) (by decide)).s (b := 112) (j := 1) (v := some 14) (by decide))
set_option maxHeartbeats 1000000 in
theorem in_X11_init_1 {μ : Nat → Nat → Int} {R : Nat → Nat → Option Nat} (hz : ZrI 1 μ) (hr : ZrO 1 R) : Cl PT 100 [mR 0] (K0.take 1, μ, R, 1, 17) (fun r => r = (some none, (K0.take 118, (m_set (m_set (m_set (m_set (m_set (m_set (m_set (m_set (m_set (m_set (m_set (m_set (m_set (m_set (m_set (m_set (m_set (m_set (m_set (m_set (m_upd (m_upd (m_upd (m_set (m_set (m_set (m_set (m_set (m_set (m_set (m_set (m_set (m_set (m_set (m_set (m_upd (m_upd (m_upd (m_set (m_set (m_set (m_set (m_set (m_set (m_set (m_set (m_set (m_set (m_set (m_set (m_upd (m_upd (m_upd (m_set (m_set (m_set (m_set (m_set (m_set (m_set (m_set (m_set (m_set (m_set (m_set (m_upd (m_upd (m_upd (m_upd μ 4 (wst 78).2) 8 (fl (fun _ => (-1)) (fun _ => 0) 300)) 9 (fl (fun _ => 0) (fun _ => 0) 3)) 10 (fl (fun _ => (-1)) (fun _ => 0) 90)) 6 7 0) 6 8 0) 6 9 0) 6 10 1) 6 11 99) 6 12 0) 6 13 0) 6 14 (-1)) 6 15 0) 6 16 0) 6 17 0) 14 3 (-1)) 25 (fl (fun _ => (-1)) (fun _ => 0) 300)) 26 (fl (fun _ => 0) (fun _ => 0) 3)) 27 (fl (fun _ => (-1)) (fun _ => 0) 90)) 23 7 0) 23 8 0) 23 9 0) 23 10 1) 23 11 99) 23 12 0) 23 13 0) 23 14 (-1)) 23 15 0) 23 16 0) 23 17 0) 31 3 (-1)) 41 (fl (fun _ => (-1)) (fun _ => 0) 300)) 42 (fl (fun _ => 0) (fun _ => 0) 3)) 43 (fl (fun _ => (-1)) (fun _ => 0) 90)) 39 7 0) 39 8 0) 39 9 0) 39 10 1) 39 11 99) 39 12 0) 39 13 0) 39 14 (-1)) 39 15 0) 39 16 0) 39 17 0) 47 3 (-1)) 56 (fl (fun _ => (-1)) (fun _ => 0) 300)) 57 (fl (fun _ => 0) (fun _ => 0) 3)) 58 (fl (fun _ => (-1)) (fun _ => 0) 90)) 54 7 0) 54 8 0) 54 9 0) 54 10 1) 54 11 99) 54 12 0) 54 13 0) 54 14 (-1)) 54 15 0) 54 16 0) 54 17 0) 83 3 (-1)) 88 3 (-1)) 91 3 (-1)) 94 3 (-1)) 97 3 (-1)) 100 3 (-1)) 103 3 (-1)) 106 3 (-1)) 109 3 (-1)), (m_set (m_set (m_set (m_set (m_set (m_set (m_set (m_set (m_set (m_set (m_set (m_set (m_set (m_set (m_set (m_set (m_set (m_set (m_set (m_set (m_set (m_set (m_set (m_set (m_set (m_set (m_set (m_set (m_set (m_set (m_set (m_set (m_set (m_set (m_set (m_set (m_set (m_set (m_set (m_set (m_set (m_set (m_set (m_set (m_set (m_set (m_set (m_set (m_set (m_set (m_set (m_set (m_set (m_set (m_set (m_set (m_set (m_set (m_set (m_set (m_set (m_set (m_set (m_set (m_set (m_set (m_set (m_set (m_set (m_set (m_set (m_set (m_set (m_set (m_set (m_set (m_set (m_set (m_set (m_set (m_set (m_set (m_set (m_set (m_set (m_set (m_set (m_set (m_set (m_set (m_set (m_set (m_set (m_set (m_set (m_set (m_set (m_set (m_set (m_set (m_set (m_set (m_set (m_set (m_set (m_set (m_set (m_set (m_set (m_set (m_set (m_set (m_set (m_set (m_set (m_set (m_set (m_set (m_set (m_set (m_set (m_set (m_set (m_set (m_set (m_set (m_set (m_set (m_set R 1 0 (some 2)) 0 0 (some 1)) 3 1 (some 4)) 3 0 (some 1)) 0 1 (some 3)) 6 0 (some 7)) 6 1 (some 8)) 6 2 (some 9)) 6 3 (some 10)) 6 4 (some 11)) 6 5 (some 12)) 6 6 (some 13)) 5 0 (some 6)) 14 1 (some 15)) 14 2 (some 16)) 5 1 (some 14)) 17 1 (some 18)) 17 2 (some 19)) 17 3 (some 20)) 5 2 (some 17)) 0 2 (some 5)) 0 3 (some 6)) 0 4 (some 14)) 0 5 (some 21)) 23 0 (some 24)) 23 1 (some 25)) 23 2 (some 26)) 23 3 (some 27)) 23 4 (some 28)) 23 5 (some 29)) 23 6 (some 30)) 22 0 (some 23)) 31 1 (some 32)) 31 2 (some 33)) 22 1 (some 31)) 34 1 (some 35)) 34 2 (some 36)) 34 3 (some 37)) 22 2 (some 34)) 21 0 (some 22)) 39 0 (some 40)) 39 1 (some 41)) 39 2 (some 42)) 39 3 (some 43)) 39 4 (some 44)) 39 5 (some 45)) 39 6 (some 46)) 38 0 (some 39)) 47 1 (some 48)) 47 2 (some 49)) 38 1 (some 47)) 50 1 (some 51)) 50 2 (some 52)) 50 3 (some 53)) 38 2 (some 50)) 21 1 (some 38)) 54 0 (some 55)) 54 1 (some 56)) 54 2 (some 57)) 54 3 (some 58)) 54 4 (some 59)) 54 5 (some 60)) 54 6 (some 61)) 0 6 (some 54)) 62 1 (some 63)) 62 2 (some 64)) 62 3 (some 65)) 0 7 (some 62)) 66 1 (some 67)) 66 2 (some 68)) 66 3 (some 69)) 66 4 (some 70)) 66 5 (some 71)) 66 6 (some 72)) 66 7 (some 73)) 66 0 (some 6)) 0 8 (some 66)) 74 1 (some 75)) 74 2 (some 76)) 74 3 (some 77)) 74 4 (some 78)) 74 5 (some 79)) 74 6 (some 80)) 74 0 (some 6)) 0 9 (some 74)) 81 0 (some 6)) 81 1 (some 14)) 0 10 (some 81)) 83 1 (some 84)) 83 2 (some 85)) 82 3 (some 83)) 82 4 (some 86)) 82 8 (some 87)) 82 0 (some 6)) 82 1 (some 66)) 82 2 (some 14)) 88 1 (some 89)) 88 2 (some 90)) 86 0 (some 88)) 91 1 (some 92)) 91 2 (some 93)) 86 1 (some 91)) 94 1 (some 95)) 94 2 (some 96)) 86 2 (some 94)) 97 1 (some 98)) 97 2 (some 99)) 86 3 (some 97)) 100 1 (some 101)) 100 2 (some 102)) 86 4 (some 100)) 103 1 (some 104)) 103 2 (some 105)) 86 5 (some 103)) 106 1 (some 107)) 106 2 (some 108)) 86 6 (some 106)) 109 1 (some 110)) 109 2 (some 111)) 86 7 (some 109)) 0 11 (some 82)) 112 2 (some 113)) 112 3 (some 114)) 112 4 (some 115)) 112 0 (some 6)) 112 1 (some 14)) 0 12 (some 112)) 0 13 (some 116)) 0 15 (some 117)), 118, 7779))) := by
  refine ⟨_, PT_100, Nat.le_of_ble_eq_true rfl, ?_⟩
  show Rn PT none kX11_init 0 [some (mR 0), none] [] (K0.take 1, μ, R, 1, 17) _
  refine gn_aload_n (k' := 1) rfl rfl rfl ?_
  refine rn_nat (k' := 2) (S' := []) rfl rfl rfl ?_
  refine gn_aload_n (k' := 3) rfl rfl rfl ?_
  refine gn_new (k' := 4) (i := 1) (n := 7) (K' := K0.take 2) (c' := 2) (s' := 24) rfl rfl rfl rfl rfl (by decide) (fun j => hz 1 j (by decide)) (fun j => hr 1 j (by decide)) rfl rfl rfl ?_
  have z1 := hz.up (i' := 2) (by decide)
  have o2 := hr.up (i' := 2) (by decide)
  refine gn_dupR (k' := 5) rfl rfl ?_
  refine rn_callP (k' := 6) (y := 66) (vs := [mR 1]) (S' := [mR 1, mR 0]) (v := none) rfl rfl rfl (in_X7_init_2 z1 o2 ) ?_
  show Rn PT none kX11_init 6 [some (mR 0), none] [mR 1, mR 0] _ _
  have z3 := in_X7_init_2_z z1
  have o4 := in_X7_init_2_o o2
  refine gn_putR (k' := 7) rfl rfl (K0t_0 (by decide)) (by decide) rfl ?_
  have o5 := o4.s (b := 0) (j := 0) (v := some 1) (by decide)
  refine gn_aload_n (k' := 8) rfl rfl rfl ?_
  refine gn_new (k' := 9) (i := 3) (n := 3) (K' := K0.take 4) (c' := 4) (s' := 967) rfl rfl rfl rfl rfl (by decide) (fun j => z3 3 j (by decide)) (fun j => o5 3 j (by decide)) rfl rfl rfl ?_
  have z6 := z3.up (i' := 4) (by decide)
  have o7 := o5.up (i' := 4) (by decide)
  refine gn_dupR (k' := 10) rfl rfl ?_
  refine gn_aload_n (k' := 11) rfl rfl rfl ?_
  refine gn_getR (k' := 12) rfl rfl (K0t_0 (by decide)) (by decide) rfl rfl ?_
  refine rn_callP (k' := 13) (y := 42) (vs := [mR 3, mR 1]) (S' := [mR 3, mR 0]) (v := none) rfl rfl rfl (in_X5_init_4 z6 o7 ) ?_
  show Rn PT none kX11_init 13 [some (mR 0), none] [mR 3, mR 0] _ _
  have z8 := in_X5_init_4_z z6
  have o9 := in_X5_init_4_o o7
  refine gn_putR (k' := 14) rfl rfl (K0t_0 (by decide)) (by decide) rfl ?_
  have o10 := o9.s (b := 0) (j := 1) (v := some 3) (by decide)
  refine gn_aload_n (k' := 15) rfl rfl rfl ?_
  refine gn_new (k' := 16) (i := 5) (n := 4) (K' := K0.take 6) (c' := 6) (s' := 987) rfl rfl rfl rfl rfl (by decide) (fun j => z8 5 j (by decide)) (fun j => o10 5 j (by decide)) rfl rfl rfl ?_
  have z11 := z8.up (i' := 6) (by decide)
  have o12 := o10.up (i' := 6) (by decide)
  refine gn_dupR (k' := 17) rfl rfl ?_
  refine rn_callP (k' := 18) (y := 24) (vs := [mR 5]) (S' := [mR 5, mR 0]) (v := none) rfl rfl rfl (in_X2_init_6 z11 o12 ) ?_
  show Rn PT none kX11_init 18 [some (mR 0), none] [mR 5, mR 0] _ _
  have z13 := in_X2_init_6_z z11
  have o14 := in_X2_init_6_o o12
  refine gn_putR (k' := 19) rfl rfl (K0t_0 (by decide)) (by decide) rfl ?_
  have o15 := o14.s (b := 0) (j := 2) (v := some 5) (by decide)
  refine gn_aload_n (k' := 20) rfl rfl rfl ?_
  refine gn_aload_n (k' := 21) rfl rfl rfl ?_
  refine gn_getR (k' := 22) rfl rfl (K0t_0 (by decide)) (by decide) rfl rfl ?_
  refine gn_getR (k' := 23) rfl rfl (K0t_5 (by decide)) (by decide) rfl rfl ?_
  refine gn_putR (k' := 24) rfl rfl (K0t_0 (by decide)) (by decide) rfl ?_
  have o16 := o15.s (b := 0) (j := 3) (v := some 6) (by decide)
  refine gn_aload_n (k' := 25) rfl rfl rfl ?_
  refine gn_aload_n (k' := 26) rfl rfl rfl ?_
  refine gn_getR (k' := 27) rfl rfl (K0t_0 (by decide)) (by decide) rfl rfl ?_
  refine gn_getR (k' := 28) rfl rfl (K0t_5 (by decide)) (by decide) rfl rfl ?_
  refine gn_putR (k' := 29) rfl rfl (K0t_0 (by decide)) (by decide) rfl ?_
  have o17 := o16.s (b := 0) (j := 4) (v := some 14) (by decide)
  refine gn_aload_n (k' := 30) rfl rfl rfl ?_
  refine gn_iconst (k' := 31) rfl rfl ?_
  refine gn_anewarray (k' := 32) (i := 21) (n := 2) (K' := K0.take 22) (c' := 22) (s' := 1639) rfl rfl rfl (by decide) rfl (fun j => o17 21 j (by decide)) rfl rfl rfl ?_
  have z18 := z13.up (i' := 22) (by decide)
  have o19 := o17.up (i' := 22) (by decide)
  refine gn_putR (k' := 33) rfl rfl (K0t_0 (by decide)) (by decide) rfl ?_
  have o20 := o19.s (b := 0) (j := 5) (v := some 21) (by decide)
  refine gn_iconst (k' := 34) rfl rfl ?_
  refine gn_istore_n (k' := 35) (L' := [some (mR 0), some (mI 0)]) rfl rfl (Nat.le_of_ble_eq_true rfl) rfl ?_
  refine gn_iload_n (k' := 36) rfl rfl rfl ?_
  refine gn_iconst (k' := 37) rfl rfl ?_
  refine gn_icmp_ge (k' := 38) rfl rfl (fun hc => absurd hc (by decide)) (fun _ => ?_)
  refine gn_aload_n (k' := 39) rfl rfl rfl ?_
  refine gn_getR (k' := 40) rfl rfl (K0t_0 (by decide)) (by decide) rfl rfl ?_
  refine gn_iload_n (k' := 41) rfl rfl rfl ?_
  refine gn_new (k' := 42) (i := 22) (n := 4) (K' := K0.take 23) (c' := 23) (s' := 1643) rfl rfl rfl rfl rfl (by decide) (fun j => z18 22 j (by decide)) (fun j => o20 22 j (by decide)) rfl rfl rfl ?_
  have z21 := z18.up (i' := 23) (by decide)
  have o22 := o20.up (i' := 23) (by decide)
  refine gn_dupR (k' := 43) rfl rfl ?_
  refine rn_callP (k' := 44) (y := 24) (vs := [mR 22]) (S' := [mR 22, mI 0, mR 21]) (v := none) rfl rfl rfl (in_X2_init_23 z21 o22 ) ?_
  show Rn PT none kX11_init 44 [some (mR 0), some (mI 0)] [mR 22, mI 0, mR 21] _ _
  have z23 := in_X2_init_23_z z21
  have o24 := in_X2_init_23_o o22
  refine gn_aastore (k' := 45) rfl rfl (K0t_21 (by decide)) (K0t_22 (by decide)) (by decide) (by decide) (by decide) ?_
  have o25 := o24.s (b := 21) (j := 0) (v := some 22) (by decide)
  refine gn_iinc (k' := 46) (L' := [some (mR 0), some (mI 1)]) rfl rfl rfl (by decide) rfl ?_
  refine gn_goto rfl ?_
  refine gn_iload_n (k' := 36) rfl rfl rfl ?_
  refine gn_iconst (k' := 37) rfl rfl ?_
  refine gn_icmp_ge (k' := 38) rfl rfl (fun hc => absurd hc (by decide)) (fun _ => ?_)
  refine gn_aload_n (k' := 39) rfl rfl rfl ?_
  refine gn_getR (k' := 40) rfl rfl (K0t_0 (by decide)) (by decide) rfl rfl ?_
  refine gn_iload_n (k' := 41) rfl rfl rfl ?_
  refine gn_new (k' := 42) (i := 38) (n := 4) (K' := K0.take 39) (c' := 39) (s' := 2297) rfl rfl rfl rfl rfl (by decide) (fun j => z23 38 j (by decide)) (fun j => o25 38 j (by decide)) rfl rfl rfl ?_
  have z26 := z23.up (i' := 39) (by decide)
  have o27 := o25.up (i' := 39) (by decide)
  refine gn_dupR (k' := 43) rfl rfl ?_
  refine rn_callP (k' := 44) (y := 24) (vs := [mR 38]) (S' := [mR 38, mI 1, mR 21]) (v := none) rfl rfl rfl (in_X2_init_39 z26 o27 ) ?_
  show Rn PT none kX11_init 44 [some (mR 0), some (mI 1)] [mR 38, mI 1, mR 21] _ _
  have z28 := in_X2_init_39_z z26
  have o29 := in_X2_init_39_o o27
  refine gn_aastore (k' := 45) rfl rfl (K0t_21 (by decide)) (K0t_38 (by decide)) (by decide) (by decide) (by decide) ?_
  have o30 := o29.s (b := 21) (j := 1) (v := some 38) (by decide)
  refine gn_iinc (k' := 46) (L' := [some (mR 0), some (mI 2)]) rfl rfl rfl (by decide) rfl ?_
  refine gn_goto rfl ?_
  refine gn_iload_n (k' := 36) rfl rfl rfl ?_
  refine gn_iconst (k' := 37) rfl rfl ?_
  refine gn_icmp_ge (k' := 38) rfl rfl (fun _ => ?_) (fun hc => absurd hc (by decide))
  refine gn_aload_n (k' := 48) rfl rfl rfl ?_
  refine gn_new (k' := 49) (i := 54) (n := 18) (K' := K0.take 55) (c' := 55) (s' := 2965) rfl rfl rfl rfl rfl (by decide) (fun j => z28 54 j (by decide)) (fun j => o30 54 j (by decide)) rfl rfl rfl ?_
  have z31 := z28.up (i' := 55) (by decide)
  have o32 := o30.up (i' := 55) (by decide)
  refine gn_dupR (k' := 50) rfl rfl ?_
  refine rn_callP (k' := 51) (y := 26) (vs := [mR 54]) (S' := [mR 54, mR 0]) (v := none) rfl rfl rfl (in_X3_init_55 z31 o32 ) ?_
  show Rn PT none kX11_init 51 [some (mR 0), some (mI 2)] [mR 54, mR 0] _ _
  have z33 := in_X3_init_55_z z31
  have o34 := in_X3_init_55_o o32
  refine gn_putR (k' := 52) rfl rfl (K0t_0 (by decide)) (by decide) rfl ?_
  have o35 := o34.s (b := 0) (j := 6) (v := some 54) (by decide)
  refine gn_aload_n (k' := 53) rfl rfl rfl ?_
  refine gn_new (k' := 54) (i := 62) (n := 4) (K' := K0.take 63) (c' := 63) (s' := 3486) rfl rfl rfl rfl rfl (by decide) (fun j => z33 62 j (by decide)) (fun j => o35 62 j (by decide)) rfl rfl rfl ?_
  have z36 := z33.up (i' := 63) (by decide)
  have o37 := o35.up (i' := 63) (by decide)
  refine gn_dupR (k' := 55) rfl rfl ?_
  refine rn_callP (k' := 56) (y := 40) (vs := [mR 62]) (S' := [mR 62, mR 0]) (v := none) rfl rfl rfl (in_X4_init_63 z36 o37 ) ?_
  show Rn PT none kX11_init 56 [some (mR 0), some (mI 2)] [mR 62, mR 0] _ _
  have z38 := in_X4_init_63_z z36
  have o39 := in_X4_init_63_o o37
  refine gn_putR (k' := 57) rfl rfl (K0t_0 (by decide)) (by decide) rfl ?_
  have o40 := o39.s (b := 0) (j := 7) (v := some 62) (by decide)
  refine gn_aload_n (k' := 58) rfl rfl rfl ?_
  refine gn_new (k' := 59) (i := 66) (n := 9) (K' := K0.take 67) (c' := 67) (s' := 3585) rfl rfl rfl rfl rfl (by decide) (fun j => z38 66 j (by decide)) (fun j => o40 66 j (by decide)) rfl rfl rfl ?_
  have z41 := z38.up (i' := 67) (by decide)
  have o42 := o40.up (i' := 67) (by decide)
  refine gn_dupR (k' := 60) rfl rfl ?_
  refine gn_aload_n (k' := 61) rfl rfl rfl ?_
  refine gn_getR (k' := 62) rfl rfl (K0t_0 (by decide)) (by decide) rfl rfl ?_
  refine rn_callP (k' := 63) (y := 86) (vs := [mR 66, mR 6]) (S' := [mR 66, mR 0]) (v := none) rfl rfl rfl (in_X10_init_67 z41 o42 ) ?_
  show Rn PT none kX11_init 63 [some (mR 0), some (mI 2)] [mR 66, mR 0] _ _
  have z43 := in_X10_init_67_z z41
  have o44 := in_X10_init_67_o o42
  refine gn_putR (k' := 64) rfl rfl (K0t_0 (by decide)) (by decide) rfl ?_
  have o45 := o44.s (b := 0) (j := 8) (v := some 66) (by decide)
  refine gn_aload_n (k' := 65) rfl rfl rfl ?_
  refine gn_new (k' := 66) (i := 74) (n := 9) (K' := K0.take 75) (c' := 75) (s' := 4294) rfl rfl rfl rfl rfl (by decide) (fun j => z43 74 j (by decide)) (fun j => o45 74 j (by decide)) rfl rfl rfl ?_
  have z46 := z43.up (i' := 75) (by decide)
  have o47 := o45.up (i' := 75) (by decide)
  refine gn_dupR (k' := 67) rfl rfl ?_
  refine gn_aload_n (k' := 68) rfl rfl rfl ?_
  refine gn_getR (k' := 69) rfl rfl (K0t_0 (by decide)) (by decide) rfl rfl ?_
  refine rn_callP (k' := 70) (y := 14) (vs := [mR 74, mR 6]) (S' := [mR 74, mR 0]) (v := none) rfl rfl rfl (in_X1_init_75 z46 o47 ) ?_
  show Rn PT none kX11_init 70 [some (mR 0), some (mI 2)] [mR 74, mR 0] _ _
  have z48 := in_X1_init_75_z z46
  have o49 := in_X1_init_75_o o47
  refine gn_putR (k' := 71) rfl rfl (K0t_0 (by decide)) (by decide) rfl ?_
  have o50 := o49.s (b := 0) (j := 9) (v := some 74) (by decide)
  refine gn_aload_n (k' := 72) rfl rfl rfl ?_
  refine gn_new (k' := 73) (i := 81) (n := 2) (K' := K0.take 82) (c' := 82) (s' := 5296) rfl rfl rfl rfl rfl (by decide) (fun j => z48 81 j (by decide)) (fun j => o50 81 j (by decide)) rfl rfl rfl ?_
  have z51 := z48.up (i' := 82) (by decide)
  have o52 := o50.up (i' := 82) (by decide)
  refine gn_dupR (k' := 74) rfl rfl ?_
  refine gn_aload_n (k' := 75) rfl rfl rfl ?_
  refine gn_getR (k' := 76) rfl rfl (K0t_0 (by decide)) (by decide) rfl rfl ?_
  refine gn_aload_n (k' := 77) rfl rfl rfl ?_
  refine gn_getR (k' := 78) rfl rfl (K0t_0 (by decide)) (by decide) rfl rfl ?_
  refine rn_callP (k' := 79) (y := 77) (vs := [mR 81, mR 6, mR 14]) (S' := [mR 81, mR 0]) (v := none) rfl rfl rfl (in_X9_init_82 z51 o52 ) ?_
  show Rn PT none kX11_init 79 [some (mR 0), some (mI 2)] [mR 81, mR 0] _ _
  have z53 := in_X9_init_82_z z51
  have o54 := in_X9_init_82_o o52
  refine gn_putR (k' := 80) rfl rfl (K0t_0 (by decide)) (by decide) rfl ?_
  have o55 := o54.s (b := 0) (j := 10) (v := some 81) (by decide)
  refine gn_aload_n (k' := 81) rfl rfl rfl ?_
  refine gn_new (k' := 82) (i := 82) (n := 10) (K' := K0.take 83) (c' := 83) (s' := 5306) rfl rfl rfl rfl rfl (by decide) (fun j => z53 82 j (by decide)) (fun j => o55 82 j (by decide)) rfl rfl rfl ?_
  have z56 := z53.up (i' := 83) (by decide)
  have o57 := o55.up (i' := 83) (by decide)
  refine gn_dupR (k' := 83) rfl rfl ?_
  refine gn_aload_n (k' := 84) rfl rfl rfl ?_
  refine gn_getR (k' := 85) rfl rfl (K0t_0 (by decide)) (by decide) rfl rfl ?_
  refine gn_aload_n (k' := 86) rfl rfl rfl ?_
  refine gn_getR (k' := 87) rfl rfl (K0t_0 (by decide)) (by decide) rfl rfl ?_
  refine gn_aload_n (k' := 88) rfl rfl rfl ?_
  refine gn_getR (k' := 89) rfl rfl (K0t_0 (by decide)) (by decide) rfl rfl ?_
  refine rn_callP (k' := 90) (y := 0) (vs := [mR 82, mR 6, mR 66, mR 14]) (S' := [mR 82, mR 0]) (v := none) rfl rfl rfl (in_X0_init_83 z56 o57 ) ?_
  show Rn PT none kX11_init 90 [some (mR 0), some (mI 2)] [mR 82, mR 0] _ _
  have z58 := in_X0_init_83_z z56
  have o59 := in_X0_init_83_o o57
  refine gn_putR (k' := 91) rfl rfl (K0t_0 (by decide)) (by decide) rfl ?_
  have o60 := o59.s (b := 0) (j := 11) (v := some 82) (by decide)
  refine gn_aload_n (k' := 92) rfl rfl rfl ?_
  refine gn_new (k' := 93) (i := 112) (n := 6) (K' := K0.take 113) (c' := 113) (s' := 5515) rfl rfl rfl rfl rfl (by decide) (fun j => z58 112 j (by decide)) (fun j => o60 112 j (by decide)) rfl rfl rfl ?_
  have z61 := z58.up (i' := 113) (by decide)
  have o62 := o60.up (i' := 113) (by decide)
  refine gn_dupR (k' := 94) rfl rfl ?_
  refine gn_aload_n (k' := 95) rfl rfl rfl ?_
  refine gn_getR (k' := 96) rfl rfl (K0t_0 (by decide)) (by decide) rfl rfl ?_
  refine gn_aload_n (k' := 97) rfl rfl rfl ?_
  refine gn_getR (k' := 98) rfl rfl (K0t_0 (by decide)) (by decide) rfl rfl ?_
  refine rn_callP (k' := 99) (y := 71) (vs := [mR 112, mR 6, mR 14]) (S' := [mR 112, mR 0]) (v := none) rfl rfl rfl (in_X8_init_113 z61 o62 ) ?_
  show Rn PT none kX11_init 99 [some (mR 0), some (mI 2)] [mR 112, mR 0] _ _
  have z63 := in_X8_init_113_z z61
  have o64 := in_X8_init_113_o o62
  refine gn_putR (k' := 100) rfl rfl (K0t_0 (by decide)) (by decide) rfl ?_
  have o65 := o64.s (b := 0) (j := 12) (v := some 112) (by decide)
  refine gn_aload_n (k' := 101) rfl rfl rfl ?_
  refine gn_bipush (k' := 102) rfl rfl ?_
  refine gn_newarray (k' := 103) (i := 116) (n := 100) (K' := K0.take 117) (c' := 117) (s' := 7679) rfl rfl rfl (by decide) rfl (fun j => z63 116 j (by decide)) rfl rfl rfl ?_
  have z66 := z63.up (i' := 117) (by decide)
  have o67 := o65.up (i' := 117) (by decide)
  refine gn_putR (k' := 104) rfl rfl (K0t_0 (by decide)) (by decide) rfl ?_
  have o68 := o67.s (b := 0) (j := 13) (v := some 116) (by decide)
  refine gn_aload_n (k' := 105) rfl rfl rfl ?_
  refine gn_bipush (k' := 106) rfl rfl ?_
  refine gn_newarray (k' := 107) (i := 117) (n := 100) (K' := K0.take 118) (c' := 118) (s' := 7779) rfl rfl rfl (by decide) rfl (fun j => z66 117 j (by decide)) rfl rfl rfl ?_
  have z69 := z66.up (i' := 118) (by decide)
  have o70 := o68.up (i' := 118) (by decide)
  refine gn_putR (k' := 108) rfl rfl (K0t_0 (by decide)) (by decide) rfl ?_
  have o71 := o70.s (b := 0) (j := 15) (v := some 117) (by decide)
  exact rn_vret rfl rfl
theorem in_X11_init_1_z {μ : Nat → Nat → Int} (hz : ZrI 1 μ) : ZrI 118 (m_set (m_set (m_set (m_set (m_set (m_set (m_set (m_set (m_set (m_set (m_set (m_set (m_set (m_set (m_set (m_set (m_set (m_set (m_set (m_set (m_upd (m_upd (m_upd (m_set (m_set (m_set (m_set (m_set (m_set (m_set (m_set (m_set (m_set (m_set (m_set (m_upd (m_upd (m_upd (m_set (m_set (m_set (m_set (m_set (m_set (m_set (m_set (m_set (m_set (m_set (m_set (m_upd (m_upd (m_upd (m_set (m_set (m_set (m_set (m_set (m_set (m_set (m_set (m_set (m_set (m_set (m_set (m_upd (m_upd (m_upd (m_upd μ 4 (wst 78).2) 8 (fl (fun _ => (-1)) (fun _ => 0) 300)) 9 (fl (fun _ => 0) (fun _ => 0) 3)) 10 (fl (fun _ => (-1)) (fun _ => 0) 90)) 6 7 0) 6 8 0) 6 9 0) 6 10 1) 6 11 99) 6 12 0) 6 13 0) 6 14 (-1)) 6 15 0) 6 16 0) 6 17 0) 14 3 (-1)) 25 (fl (fun _ => (-1)) (fun _ => 0) 300)) 26 (fl (fun _ => 0) (fun _ => 0) 3)) 27 (fl (fun _ => (-1)) (fun _ => 0) 90)) 23 7 0) 23 8 0) 23 9 0) 23 10 1) 23 11 99) 23 12 0) 23 13 0) 23 14 (-1)) 23 15 0) 23 16 0) 23 17 0) 31 3 (-1)) 41 (fl (fun _ => (-1)) (fun _ => 0) 300)) 42 (fl (fun _ => 0) (fun _ => 0) 3)) 43 (fl (fun _ => (-1)) (fun _ => 0) 90)) 39 7 0) 39 8 0) 39 9 0) 39 10 1) 39 11 99) 39 12 0) 39 13 0) 39 14 (-1)) 39 15 0) 39 16 0) 39 17 0) 47 3 (-1)) 56 (fl (fun _ => (-1)) (fun _ => 0) 300)) 57 (fl (fun _ => 0) (fun _ => 0) 3)) 58 (fl (fun _ => (-1)) (fun _ => 0) 90)) 54 7 0) 54 8 0) 54 9 0) 54 10 1) 54 11 99) 54 12 0) 54 13 0) 54 14 (-1)) 54 15 0) 54 16 0) 54 17 0) 83 3 (-1)) 88 3 (-1)) 91 3 (-1)) 94 3 (-1)) 97 3 (-1)) 100 3 (-1)) 103 3 (-1)) 106 3 (-1)) 109 3 (-1)) := ((((((((((((((((((((((((((((((((((((((((((((((((((((((((((((((((((((((hz.up (i' := 118) (by decide)).u (b := 4) (f := (wst 78).2) (by decide)).u (b := 8) (f := fl (fun _ => (-1)) (fun _ => 0) 300) (by decide)).u (b := 9) (f := fl (fun _ => 0) (fun _ => 0) 3) (by decide)).u (b := 10) (f := fl (fun _ => (-1)) (fun _ => 0) 90) (by decide)).s (b := 6) (j := 7) (v := 0) (by decide)).s (b := 6) (j := 8) (v := 0) (by decide)).s (b := 6) (j := 9) (v := 0) (by decide)).s (b := 6) (j := 10) (v := 1) (by decide)).s (b := 6) (j := 11) (v := 99) (by decide)).s (b := 6) (j := 12) (v := 0) (by decide)).s (b := 6) (j := 13) (v := 0) (by decide)).s (b := 6) (j := 14) (v := (-1)) (by decide)).s (b := 6) (j := 15) (v := 0) (by decide)).s (b := 6) (j := 16) (v := 0) (by decide)).s (b := 6) (j := 17) (v := 0) (by decide)).s (b := 14) (j := 3) (v := (-1)) (by decide)).u (b := 25) (f := fl (fun _ => (-1)) (fun _ => 0) 300) (by decide)).u (b := 26) (f := fl (fun _ => 0) (fun _ => 0) 3) (by decide)).u (b := 27) (f := fl (fun _ => (-1)) (fun _ => 0) 90) (by decide)).s (b := 23) (j := 7) (v := 0) (by decide)).s (b := 23) (j := 8) (v := 0) (by decide)).s (b := 23) (j := 9) (v := 0) (by decide)).s (b := 23) (j := 10) (v := 1) (by decide)).s (b := 23) (j := 11) (v := 99) (by decide)).s (b := 23) (j := 12) (v := 0) (by decide)).s (b := 23) (j := 13) (v := 0) (by decide)).s (b := 23) (j := 14) (v := (-1)) (by decide)).s (b := 23) (j := 15) (v := 0) (by decide)).s (b := 23) (j := 16) (v := 0) (by decide)).s (b := 23) (j := 17) (v := 0) (by decide)).s (b := 31) (j := 3) (v := (-1)) (by decide)).u (b := 41) (f := fl (fun _ => (-1)) (fun _ => 0) 300) (by decide)).u (b := 42) (f := fl (fun _ => 0) (fun _ => 0) 3) (by decide)).u (b := 43) (f := fl (fun _ => (-1)) (fun _ => 0) 90) (by decide)).s (b := 39) (j := 7) (v := 0) (by decide)).s (b := 39) (j := 8) (v := 0) (by decide)).s (b := 39) (j := 9) (v := 0) (by decide)).s (b := 39) (j := 10) (v := 1) (by decide)).s (b := 39) (j := 11) (v := 99) (by decide)).s (b := 39) (j := 12) (v := 0) (by decide)).s (b := 39) (j := 13) (v := 0) (by decide)).s (b := 39) (j := 14) (v := (-1)) (by decide)).s (b := 39) (j := 15) (v := 0) (by decide)).s (b := 39) (j := 16) (v := 0) (by decide)).s (b := 39) (j := 17) (v := 0) (by decide)).s (b := 47) (j := 3) (v := (-1)) (by decide)).u (b := 56) (f := fl (fun _ => (-1)) (fun _ => 0) 300) (by decide)).u (b := 57) (f := fl (fun _ => 0) (fun _ => 0) 3) (by decide)).u (b := 58) (f := fl (fun _ => (-1)) (fun _ => 0) 90) (by decide)).s (b := 54) (j := 7) (v := 0) (by decide)).s (b := 54) (j := 8) (v := 0) (by decide)).s (b := 54) (j := 9) (v := 0) (by decide)).s (b := 54) (j := 10) (v := 1) (by decide)).s (b := 54) (j := 11) (v := 99) (by decide)).s (b := 54) (j := 12) (v := 0) (by decide)).s (b := 54) (j := 13) (v := 0) (by decide)).s (b := 54) (j := 14) (v := (-1)) (by decide)).s (b := 54) (j := 15) (v := 0) (by decide)).s (b := 54) (j := 16) (v := 0) (by decide)).s (b := 54) (j := 17) (v := 0) (by decide)).s (b := 83) (j := 3) (v := (-1)) (by decide)).s (b := 88) (j := 3) (v := (-1)) (by decide)).s (b := 91) (j := 3) (v := (-1)) (by decide)).s (b := 94) (j := 3) (v := (-1)) (by decide)).s (b := 97) (j := 3) (v := (-1)) (by decide)).s (b := 100) (j := 3) (v := (-1)) (by decide)).s (b := 103) (j := 3) (v := (-1)) (by decide)).s (b := 106) (j := 3) (v := (-1)) (by decide)).s (b := 109) (j := 3) (v := (-1)) (by decide))
theorem in_X11_init_1_o {R : Nat → Nat → Option Nat} (hr : ZrO 1 R) : ZrO 118 (m_set (m_set (m_set (m_set (m_set (m_set (m_set (m_set (m_set (m_set (m_set (m_set (m_set (m_set (m_set (m_set (m_set (m_set (m_set (m_set (m_set (m_set (m_set (m_set (m_set (m_set (m_set (m_set (m_set (m_set (m_set (m_set (m_set (m_set (m_set (m_set (m_set (m_set (m_set (m_set (m_set (m_set (m_set (m_set (m_set (m_set (m_set (m_set (m_set (m_set (m_set (m_set (m_set (m_set (m_set (m_set (m_set (m_set (m_set (m_set (m_set (m_set (m_set (m_set (m_set (m_set (m_set (m_set (m_set (m_set (m_set (m_set (m_set (m_set (m_set (m_set (m_set (m_set (m_set (m_set (m_set (m_set (m_set (m_set (m_set (m_set (m_set (m_set (m_set (m_set (m_set (m_set (m_set (m_set (m_set (m_set (m_set (m_set (m_set (m_set (m_set (m_set (m_set (m_set (m_set (m_set (m_set (m_set (m_set (m_set (m_set (m_set (m_set (m_set (m_set (m_set (m_set (m_set (m_set (m_set (m_set (m_set (m_set (m_set (m_set (m_set (m_set (m_set (m_set R 1 0 (some 2)) 0 0 (some 1)) 3 1 (some 4)) 3 0 (some 1)) 0 1 (some 3)) 6 0 (some 7)) 6 1 (some 8)) 6 2 (some 9)) 6 3 (some 10)) 6 4 (some 11)) 6 5 (some 12)) 6 6 (some 13)) 5 0 (some 6)) 14 1 (some 15)) 14 2 (some 16)) 5 1 (some 14)) 17 1 (some 18)) 17 2 (some 19)) 17 3 (some 20)) 5 2 (some 17)) 0 2 (some 5)) 0 3 (some 6)) 0 4 (some 14)) 0 5 (some 21)) 23 0 (some 24)) 23 1 (some 25)) 23 2 (some 26)) 23 3 (some 27)) 23 4 (some 28)) 23 5 (some 29)) 23 6 (some 30)) 22 0 (some 23)) 31 1 (some 32)) 31 2 (some 33)) 22 1 (some 31)) 34 1 (some 35)) 34 2 (some 36)) 34 3 (some 37)) 22 2 (some 34)) 21 0 (some 22)) 39 0 (some 40)) 39 1 (some 41)) 39 2 (some 42)) 39 3 (some 43)) 39 4 (some 44)) 39 5 (some 45)) 39 6 (some 46)) 38 0 (some 39)) 47 1 (some 48)) 47 2 (some 49)) 38 1 (some 47)) 50 1 (some 51)) 50 2 (some 52)) 50 3 (some 53)) 38 2 (some 50)) 21 1 (some 38)) 54 0 (some 55)) 54 1 (some 56)) 54 2 (some 57)) 54 3 (some 58)) 54 4 (some 59)) 54 5 (some 60)) 54 6 (some 61)) 0 6 (some 54)) 62 1 (some 63)) 62 2 (some 64)) 62 3 (some 65)) 0 7 (some 62)) 66 1 (some 67)) 66 2 (some 68)) 66 3 (some 69)) 66 4 (some 70)) 66 5 (some 71)) 66 6 (some 72)) 66 7 (some 73)) 66 0 (some 6)) 0 8 (some 66)) 74 1 (some 75)) 74 2 (some 76)) 74 3 (some 77)) 74 4 (some 78)) 74 5 (some 79)) 74 6 (some 80)) 74 0 (some 6)) 0 9 (some 74)) 81 0 (some 6)) 81 1 (some 14)) 0 10 (some 81)) 83 1 (some 84)) 83 2 (some 85)) 82 3 (some 83)) 82 4 (some 86)) 82 8 (some 87)) 82 0 (some 6)) 82 1 (some 66)) 82 2 (some 14)) 88 1 (some 89)) 88 2 (some 90)) 86 0 (some 88)) 91 1 (some 92)) 91 2 (some 93)) 86 1 (some 91)) 94 1 (some 95)) 94 2 (some 96)) 86 2 (some 94)) 97 1 (some 98)) 97 2 (some 99)) 86 3 (some 97)) 100 1 (some 101)) 100 2 (some 102)) 86 4 (some 100)) 103 1 (some 104)) 103 2 (some 105)) 86 5 (some 103)) 106 1 (some 107)) 106 2 (some 108)) 86 6 (some 106)) 109 1 (some 110)) 109 2 (some 111)) 86 7 (some 109)) 0 11 (some 82)) 112 2 (some 113)) 112 3 (some 114)) 112 4 (some 115)) 112 0 (some 6)) 112 1 (some 14)) 0 12 (some 112)) 0 13 (some 116)) 0 15 (some 117)) := ((((((((((((((((((((((((((((((((((((((((((((((((((((((((((((((((((((((((((((((((((((((((((((((((((((((((((((((((((((((((((((((((((hr.up (i' := 118) (by decide)).s (b := 1) (j := 0) (v := some 2) (by decide)).s (b := 0) (j := 0) (v := some 1) (by decide)).s (b := 3) (j := 1) (v := some 4) (by decide)).s (b := 3) (j := 0) (v := some 1) (by decide)).s (b := 0) (j := 1) (v := some 3) (by decide)).s (b := 6) (j := 0) (v := some 7) (by decide)).s (b := 6) (j := 1) (v := some 8) (by decide)).s (b := 6) (j := 2) (v := some 9) (by decide)).s (b := 6) (j := 3) (v := some 10) (by decide)).s (b := 6) (j := 4) (v := some 11) (by decide)).s (b := 6) (j := 5) (v := some 12) (by decide)).s (b := 6) (j := 6) (v := some 13) (by decide)).s (b := 5) (j := 0) (v := some 6) (by decide)).s (b := 14) (j := 1) (v := some 15) (by decide)).s (b := 14) (j := 2) (v := some 16) (by decide)).s (b := 5) (j := 1) (v := some 14) (by decide)).s (b := 17) (j := 1) (v := some 18) (by decide)).s (b := 17) (j := 2) (v := some 19) (by decide)).s (b := 17) (j := 3) (v := some 20) (by decide)).s (b := 5) (j := 2) (v := some 17) (by decide)).s (b := 0) (j := 2) (v := some 5) (by decide)).s (b := 0) (j := 3) (v := some 6) (by decide)).s (b := 0) (j := 4) (v := some 14) (by decide)).s (b := 0) (j := 5) (v := some 21) (by decide)).s (b := 23) (j := 0) (v := some 24) (by decide)).s (b := 23) (j := 1) (v := some 25) (by decide)).s (b := 23) (j := 2) (v := some 26) (by decide)).s (b := 23) (j := 3) (v := some 27) (by decide)).s (b := 23) (j := 4) (v := some 28) (by decide)).s (b := 23) (j := 5) (v := some 29) (by decide)).s (b := 23) (j := 6) (v := some 30) (by decide)).s (b := 22) (j := 0) (v := some 23) (by decide)).s (b := 31) (j := 1) (v := some 32) (by decide)).s (b := 31) (j := 2) (v := some 33) (by decide)).s (b := 22) (j := 1) (v := some 31) (by decide)).s (b := 34) (j := 1) (v := some 35) (by decide)).s (b := 34) (j := 2) (v := some 36) (by decide)).s (b := 34) (j := 3) (v := some 37) (by decide)).s (b := 22) (j := 2) (v := some 34) (by decide)).s (b := 21) (j := 0) (v := some 22) (by decide)).s (b := 39) (j := 0) (v := some 40) (by decide)).s (b := 39) (j := 1) (v := some 41) (by decide)).s (b := 39) (j := 2) (v := some 42) (by decide)).s (b := 39) (j := 3) (v := some 43) (by decide)).s (b := 39) (j := 4) (v := some 44) (by decide)).s (b := 39) (j := 5) (v := some 45) (by decide)).s (b := 39) (j := 6) (v := some 46) (by decide)).s (b := 38) (j := 0) (v := some 39) (by decide)).s (b := 47) (j := 1) (v := some 48) (by decide)).s (b := 47) (j := 2) (v := some 49) (by decide)).s (b := 38) (j := 1) (v := some 47) (by decide)).s (b := 50) (j := 1) (v := some 51) (by decide)).s (b := 50) (j := 2) (v := some 52) (by decide)).s (b := 50) (j := 3) (v := some 53) (by decide)).s (b := 38) (j := 2) (v := some 50) (by decide)).s (b := 21) (j := 1) (v := some 38) (by decide)).s (b := 54) (j := 0) (v := some 55) (by decide)).s (b := 54) (j := 1) (v := some 56) (by decide)).s (b := 54) (j := 2) (v := some 57) (by decide)).s (b := 54) (j := 3) (v := some 58) (by decide)).s (b := 54) (j := 4) (v := some 59) (by decide)).s (b := 54) (j := 5) (v := some 60) (by decide)).s (b := 54) (j := 6) (v := some 61) (by decide)).s (b := 0) (j := 6) (v := some 54) (by decide)).s (b := 62) (j := 1) (v := some 63) (by decide)).s (b := 62) (j := 2) (v := some 64) (by decide)).s (b := 62) (j := 3) (v := some 65) (by decide)).s (b := 0) (j := 7) (v := some 62) (by decide)).s (b := 66) (j := 1) (v := some 67) (by decide)).s (b := 66) (j := 2) (v := some 68) (by decide)).s (b := 66) (j := 3) (v := some 69) (by decide)).s (b := 66) (j := 4) (v := some 70) (by decide)).s (b := 66) (j := 5) (v := some 71) (by decide)).s (b := 66) (j := 6) (v := some 72) (by decide)).s (b := 66) (j := 7) (v := some 73) (by decide)).s (b := 66) (j := 0) (v := some 6) (by decide)).s (b := 0) (j := 8) (v := some 66) (by decide)).s (b := 74) (j := 1) (v := some 75) (by decide)).s (b := 74) (j := 2) (v := some 76) (by decide)).s (b := 74) (j := 3) (v := some 77) (by decide)).s (b := 74) (j := 4) (v := some 78) (by decide)).s (b := 74) (j := 5) (v := some 79) (by decide)).s (b := 74) (j := 6) (v := some 80) (by decide)).s (b := 74) (j := 0) (v := some 6) (by decide)).s (b := 0) (j := 9) (v := some 74) (by decide)).s (b := 81) (j := 0) (v := some 6) (by decide)).s (b := 81) (j := 1) (v := some 14) (by decide)).s (b := 0) (j := 10) (v := some 81) (by decide)).s (b := 83) (j := 1) (v := some 84) (by decide)).s (b := 83) (j := 2) (v := some 85) (by decide)).s (b := 82) (j := 3) (v := some 83) (by decide)).s (b := 82) (j := 4) (v := some 86) (by decide)).s (b := 82) (j := 8) (v := some 87) (by decide)).s (b := 82) (j := 0) (v := some 6) (by decide)).s (b := 82) (j := 1) (v := some 66) (by decide)).s (b := 82) (j := 2) (v := some 14) (by decide)).s (b := 88) (j := 1) (v := some 89) (by decide)).s (b := 88) (j := 2) (v := some 90) (by decide)).s (b := 86) (j := 0) (v := some 88) (by decide)).s (b := 91) (j := 1) (v := some 92) (by decide)).s (b := 91) (j := 2) (v := some 93) (by decide)).s (b := 86) (j := 1) (v := some 91) (by decide)).s (b := 94) (j := 1) (v := some 95) (by decide)).s (b := 94) (j := 2) (v := some 96) (by decide)).s (b := 86) (j := 2) (v := some 94) (by decide)).s (b := 97) (j := 1) (v := some 98) (by decide)).s (b := 97) (j := 2) (v := some 99) (by decide)).s (b := 86) (j := 3) (v := some 97) (by decide)).s (b := 100) (j := 1) (v := some 101) (by decide)).s (b := 100) (j := 2) (v := some 102) (by decide)).s (b := 86) (j := 4) (v := some 100) (by decide)).s (b := 103) (j := 1) (v := some 104) (by decide)).s (b := 103) (j := 2) (v := some 105) (by decide)).s (b := 86) (j := 5) (v := some 103) (by decide)).s (b := 106) (j := 1) (v := some 107) (by decide)).s (b := 106) (j := 2) (v := some 108) (by decide)).s (b := 86) (j := 6) (v := some 106) (by decide)).s (b := 109) (j := 1) (v := some 110) (by decide)).s (b := 109) (j := 2) (v := some 111) (by decide)).s (b := 86) (j := 7) (v := some 109) (by decide)).s (b := 0) (j := 11) (v := some 82) (by decide)).s (b := 112) (j := 2) (v := some 113) (by decide)).s (b := 112) (j := 3) (v := some 114) (by decide)).s (b := 112) (j := 4) (v := some 115) (by decide)).s (b := 112) (j := 0) (v := some 6) (by decide)).s (b := 112) (j := 1) (v := some 14) (by decide)).s (b := 0) (j := 12) (v := some 112) (by decide)).s (b := 0) (j := 13) (v := some 116) (by decide)).s (b := 0) (j := 15) (v := some 117) (by decide))
set_option maxHeartbeats 1000000 in
theorem in_X12_init_119 {μ : Nat → Nat → Int} {R : Nat → Nat → Option Nat} (hz : ZrI 119 μ) (hr : ZrO 119 R) : Cl PT 171 [mR 118] (K0.take 119, μ, R, 119, 7827) (fun r => r = (some none, (K0.take 141, (m_set (m_set (m_set (m_set (m_set (m_set (m_set (m_set (m_set (m_set (m_set (m_set (m_set (m_set (m_set (m_set (m_set (m_set μ 124 0 7499639) 124 1 7102839) 124 2 127996155553138) 124 3 512736126322) 124 4 2003398244) 124 5 6713191) 124 6 1685024626) 124 7 7173476) 124 8 119165551928690) 124 9 1751478884) 124 10 2003790950) 124 11 26479) 124 12 1936026732) 124 13 6452601) 124 14 6578553) 124 15 474214787188) 120 2 1) 120 3 99), (m_set (m_set (m_set (m_set (m_set (m_set (m_set (m_set (m_set (m_set (m_set (m_set (m_set (m_set (m_set (m_set (m_set (m_set (m_set (m_set (m_set (m_set R 118 1 (some 119)) 118 6 (some 120)) 118 7 (some 121)) 118 8 (some 122)) 118 9 (some 123)) 118 10 (some 124)) 118 24 (some 125)) 118 25 (some 126)) 118 26 (some 127)) 118 27 (some 128)) 118 28 (some 129)) 118 30 (some 130)) 118 32 (some 131)) 118 33 (some 132)) 118 35 (some 133)) 118 36 (some 134)) 118 38 (some 135)) 118 42 (some 136)) 118 43 (some 137)) 118 45 (some 138)) 118 46 (some 139)) 118 47 (some 140)), 141, 34178))) := by
  refine ⟨_, PT_171, Nat.le_of_ble_eq_true rfl, ?_⟩
  show Rn PT none kX12_init 0 [some (mR 118)] [] (K0.take 119, μ, R, 119, 7827) _
  refine gn_aload_n (k' := 1) rfl rfl rfl ?_
  refine rn_nat (k' := 2) (S' := []) rfl rfl rfl ?_
  refine gn_aload_n (k' := 3) rfl rfl rfl ?_
  refine gn_sipush (k' := 4) rfl rfl ?_
  refine gn_newarray (k' := 5) (i := 119) (n := 940) (K' := K0.take 120) (c' := 120) (s' := 8767) rfl rfl rfl (by decide) rfl (fun j => hz 119 j (by decide)) rfl rfl rfl ?_
  have z1 := hz.up (i' := 120) (by decide)
  have o2 := hr.up (i' := 120) (by decide)
  refine gn_putR (k' := 6) rfl rfl (K0t_118 (by decide)) (by decide) rfl ?_
  have o3 := o2.s (b := 118) (j := 1) (v := some 119) (by decide)
  refine gn_aload_n (k' := 7) rfl rfl rfl ?_
  refine gn_sipush (k' := 8) rfl rfl ?_
  refine gn_newarray (k' := 9) (i := 120) (n := 657) (K' := K0.take 121) (c' := 121) (s' := 9424) rfl rfl rfl (by decide) rfl (fun j => z1 120 j (by decide)) rfl rfl rfl ?_
  have z4 := z1.up (i' := 121) (by decide)
  have o5 := o3.up (i' := 121) (by decide)
  refine gn_putR (k' := 10) rfl rfl (K0t_118 (by decide)) (by decide) rfl ?_
  have o6 := o5.s (b := 118) (j := 6) (v := some 120) (by decide)
  refine gn_aload_n (k' := 11) rfl rfl rfl ?_
  refine gn_sipush (k' := 12) rfl rfl ?_
  refine gn_newarray (k' := 13) (i := 121) (n := 517) (K' := K0.take 122) (c' := 122) (s' := 9941) rfl rfl rfl (by decide) rfl (fun j => z4 121 j (by decide)) rfl rfl rfl ?_
  have z7 := z4.up (i' := 122) (by decide)
  have o8 := o6.up (i' := 122) (by decide)
  refine gn_putR (k' := 14) rfl rfl (K0t_118 (by decide)) (by decide) rfl ?_
  have o9 := o8.s (b := 118) (j := 7) (v := some 121) (by decide)
  refine gn_aload_n (k' := 15) rfl rfl rfl ?_
  refine gn_bipush (k' := 16) rfl rfl ?_
  refine gn_newarray (k' := 17) (i := 122) (n := 121) (K' := K0.take 123) (c' := 123) (s' := 10062) rfl rfl rfl (by decide) rfl (fun j => z7 122 j (by decide)) rfl rfl rfl ?_
  have z10 := z7.up (i' := 123) (by decide)
  have o11 := o9.up (i' := 123) (by decide)
  refine gn_putR (k' := 18) rfl rfl (K0t_118 (by decide)) (by decide) rfl ?_
  have o12 := o11.s (b := 118) (j := 8) (v := some 122) (by decide)
  refine gn_aload_n (k' := 19) rfl rfl rfl ?_
  refine gn_bipush (k' := 20) rfl rfl ?_
  refine gn_newarray (k' := 21) (i := 123) (n := 16) (K' := K0.take 124) (c' := 124) (s' := 10078) rfl rfl rfl (by decide) rfl (fun j => z10 123 j (by decide)) rfl rfl rfl ?_
  have z13 := z10.up (i' := 124) (by decide)
  have o14 := o12.up (i' := 124) (by decide)
  refine gn_putR (k' := 22) rfl rfl (K0t_118 (by decide)) (by decide) rfl ?_
  have o15 := o14.s (b := 118) (j := 9) (v := some 123) (by decide)
  refine gn_aload_n (k' := 23) rfl rfl rfl ?_
  refine gn_bipush (k' := 24) rfl rfl ?_
  refine gn_newarray (k' := 25) (i := 124) (n := 16) (K' := K0.take 125) (c' := 125) (s' := 10094) rfl rfl rfl (by decide) rfl (fun j => z13 124 j (by decide)) rfl rfl rfl ?_
  have z16 := z13.up (i' := 125) (by decide)
  have o17 := o15.up (i' := 125) (by decide)
  refine gn_putR (k' := 26) rfl rfl (K0t_118 (by decide)) (by decide) rfl ?_
  have o18 := o17.s (b := 118) (j := 10) (v := some 124) (by decide)
  refine gn_aload_n (k' := 27) rfl rfl rfl ?_
  refine gn_bipush (k' := 28) rfl rfl ?_
  refine gn_newarray (k' := 29) (i := 125) (n := 100) (K' := K0.take 126) (c' := 126) (s' := 10194) rfl rfl rfl (by decide) rfl (fun j => z16 125 j (by decide)) rfl rfl rfl ?_
  have z19 := z16.up (i' := 126) (by decide)
  have o20 := o18.up (i' := 126) (by decide)
  refine gn_putR (k' := 30) rfl rfl (K0t_118 (by decide)) (by decide) rfl ?_
  have o21 := o20.s (b := 118) (j := 24) (v := some 125) (by decide)
  refine gn_aload_n (k' := 31) rfl rfl rfl ?_
  refine gn_bipush (k' := 32) rfl rfl ?_
  refine gn_newarray (k' := 33) (i := 126) (n := 100) (K' := K0.take 127) (c' := 127) (s' := 10294) rfl rfl rfl (by decide) rfl (fun j => z19 126 j (by decide)) rfl rfl rfl ?_
  have z22 := z19.up (i' := 127) (by decide)
  have o23 := o21.up (i' := 127) (by decide)
  refine gn_putR (k' := 34) rfl rfl (K0t_118 (by decide)) (by decide) rfl ?_
  have o24 := o23.s (b := 118) (j := 25) (v := some 126) (by decide)
  refine gn_aload_n (k' := 35) rfl rfl rfl ?_
  refine gn_bipush (k' := 36) rfl rfl ?_
  refine gn_newarray (k' := 37) (i := 127) (n := 100) (K' := K0.take 128) (c' := 128) (s' := 10394) rfl rfl rfl (by decide) rfl (fun j => z22 127 j (by decide)) rfl rfl rfl ?_
  have z25 := z22.up (i' := 128) (by decide)
  have o26 := o24.up (i' := 128) (by decide)
  refine gn_putR (k' := 38) rfl rfl (K0t_118 (by decide)) (by decide) rfl ?_
  have o27 := o26.s (b := 118) (j := 26) (v := some 127) (by decide)
  refine gn_aload_n (k' := 39) rfl rfl rfl ?_
  refine gn_sipush (k' := 40) rfl rfl ?_
  refine gn_newarray (k' := 41) (i := 128) (n := 10000) (K' := K0.take 129) (c' := 129) (s' := 20394) rfl rfl rfl (by decide) rfl (fun j => z25 128 j (by decide)) rfl rfl rfl ?_
  have z28 := z25.up (i' := 129) (by decide)
  have o29 := o27.up (i' := 129) (by decide)
  refine gn_putR (k' := 42) rfl rfl (K0t_118 (by decide)) (by decide) rfl ?_
  have o30 := o29.s (b := 118) (j := 27) (v := some 128) (by decide)
  refine gn_aload_n (k' := 43) rfl rfl rfl ?_
  refine gn_sipush (k' := 44) rfl rfl ?_
  refine gn_newarray (k' := 45) (i := 129) (n := 10000) (K' := K0.take 130) (c' := 130) (s' := 30394) rfl rfl rfl (by decide) rfl (fun j => z28 129 j (by decide)) rfl rfl rfl ?_
  have z31 := z28.up (i' := 130) (by decide)
  have o32 := o30.up (i' := 130) (by decide)
  refine gn_putR (k' := 46) rfl rfl (K0t_118 (by decide)) (by decide) rfl ?_
  have o33 := o32.s (b := 118) (j := 28) (v := some 129) (by decide)
  refine gn_aload_n (k' := 47) rfl rfl rfl ?_
  refine gn_bipush (k' := 48) rfl rfl ?_
  refine gn_newarray (k' := 49) (i := 130) (n := 100) (K' := K0.take 131) (c' := 131) (s' := 30494) rfl rfl rfl (by decide) rfl (fun j => z31 130 j (by decide)) rfl rfl rfl ?_
  have z34 := z31.up (i' := 131) (by decide)
  have o35 := o33.up (i' := 131) (by decide)
  refine gn_putR (k' := 50) rfl rfl (K0t_118 (by decide)) (by decide) rfl ?_
  have o36 := o35.s (b := 118) (j := 30) (v := some 130) (by decide)
  refine gn_aload_n (k' := 51) rfl rfl rfl ?_
  refine gn_sipush (k' := 52) rfl rfl ?_
  refine gn_newarray (k' := 53) (i := 131) (n := 152) (K' := K0.take 132) (c' := 132) (s' := 30646) rfl rfl rfl (by decide) rfl (fun j => z34 131 j (by decide)) rfl rfl rfl ?_
  have z37 := z34.up (i' := 132) (by decide)
  have o38 := o36.up (i' := 132) (by decide)
  refine gn_putR (k' := 54) rfl rfl (K0t_118 (by decide)) (by decide) rfl ?_
  have o39 := o38.s (b := 118) (j := 32) (v := some 131) (by decide)
  refine gn_aload_n (k' := 55) rfl rfl rfl ?_
  refine gn_bipush (k' := 56) rfl rfl ?_
  refine gn_newarray (k' := 57) (i := 132) (n := 19) (K' := K0.take 133) (c' := 133) (s' := 30665) rfl rfl rfl (by decide) rfl (fun j => z37 132 j (by decide)) rfl rfl rfl ?_
  have z40 := z37.up (i' := 133) (by decide)
  have o41 := o39.up (i' := 133) (by decide)
  refine gn_putR (k' := 58) rfl rfl (K0t_118 (by decide)) (by decide) rfl ?_
  have o42 := o41.s (b := 118) (j := 33) (v := some 132) (by decide)
  refine gn_aload_n (k' := 59) rfl rfl rfl ?_
  refine gn_sipush (k' := 60) rfl rfl ?_
  refine gn_newarray (k' := 61) (i := 133) (n := 2048) (K' := K0.take 134) (c' := 134) (s' := 32713) rfl rfl rfl (by decide) rfl (fun j => z40 133 j (by decide)) rfl rfl rfl ?_
  have z43 := z40.up (i' := 134) (by decide)
  have o44 := o42.up (i' := 134) (by decide)
  refine gn_putR (k' := 62) rfl rfl (K0t_118 (by decide)) (by decide) rfl ?_
  have o45 := o44.s (b := 118) (j := 35) (v := some 133) (by decide)
  refine gn_aload_n (k' := 63) rfl rfl rfl ?_
  refine gn_bipush (k' := 64) rfl rfl ?_
  refine gn_newarray (k' := 65) (i := 134) (n := 8) (K' := K0.take 135) (c' := 135) (s' := 32721) rfl rfl rfl (by decide) rfl (fun j => z43 134 j (by decide)) rfl rfl rfl ?_
  have z46 := z43.up (i' := 135) (by decide)
  have o47 := o45.up (i' := 135) (by decide)
  refine gn_putR (k' := 66) rfl rfl (K0t_118 (by decide)) (by decide) rfl ?_
  have o48 := o47.s (b := 118) (j := 36) (v := some 134) (by decide)
  refine gn_aload_n (k' := 67) rfl rfl rfl ?_
  refine gn_bipush (k' := 68) rfl rfl ?_
  refine gn_newarray (k' := 69) (i := 135) (n := 100) (K' := K0.take 136) (c' := 136) (s' := 32821) rfl rfl rfl (by decide) rfl (fun j => z46 135 j (by decide)) rfl rfl rfl ?_
  have z49 := z46.up (i' := 136) (by decide)
  have o50 := o48.up (i' := 136) (by decide)
  refine gn_putR (k' := 70) rfl rfl (K0t_118 (by decide)) (by decide) rfl ?_
  have o51 := o50.s (b := 118) (j := 38) (v := some 135) (by decide)
  refine gn_aload_n (k' := 71) rfl rfl rfl ?_
  refine gn_bipush (k' := 72) rfl rfl ?_
  refine gn_newarray (k' := 73) (i := 136) (n := 6) (K' := K0.take 137) (c' := 137) (s' := 32827) rfl rfl rfl (by decide) rfl (fun j => z49 136 j (by decide)) rfl rfl rfl ?_
  have z52 := z49.up (i' := 137) (by decide)
  have o53 := o51.up (i' := 137) (by decide)
  refine gn_putR (k' := 74) rfl rfl (K0t_118 (by decide)) (by decide) rfl ?_
  have o54 := o53.s (b := 118) (j := 42) (v := some 136) (by decide)
  refine gn_aload_n (k' := 75) rfl rfl rfl ?_
  refine gn_bipush (k' := 76) rfl rfl ?_
  refine gn_newarray (k' := 77) (i := 137) (n := 19) (K' := K0.take 138) (c' := 138) (s' := 32846) rfl rfl rfl (by decide) rfl (fun j => z52 137 j (by decide)) rfl rfl rfl ?_
  have z55 := z52.up (i' := 138) (by decide)
  have o56 := o54.up (i' := 138) (by decide)
  refine gn_putR (k' := 78) rfl rfl (K0t_118 (by decide)) (by decide) rfl ?_
  have o57 := o56.s (b := 118) (j := 43) (v := some 137) (by decide)
  refine gn_aload_n (k' := 79) rfl rfl rfl ?_
  refine gn_sipush (k' := 80) rfl rfl ?_
  refine gn_newarray (k' := 81) (i := 138) (n := 1314) (K' := K0.take 139) (c' := 139) (s' := 34160) rfl rfl rfl (by decide) rfl (fun j => z55 138 j (by decide)) rfl rfl rfl ?_
  have z58 := z55.up (i' := 139) (by decide)
  have o59 := o57.up (i' := 139) (by decide)
  refine gn_putR (k' := 82) rfl rfl (K0t_118 (by decide)) (by decide) rfl ?_
  have o60 := o59.s (b := 118) (j := 45) (v := some 138) (by decide)
  refine gn_aload_n (k' := 83) rfl rfl rfl ?_
  refine gn_bipush (k' := 84) rfl rfl ?_
  refine gn_newarray (k' := 85) (i := 139) (n := 16) (K' := K0.take 140) (c' := 140) (s' := 34176) rfl rfl rfl (by decide) rfl (fun j => z58 139 j (by decide)) rfl rfl rfl ?_
  have z61 := z58.up (i' := 140) (by decide)
  have o62 := o60.up (i' := 140) (by decide)
  refine gn_putR (k' := 86) rfl rfl (K0t_118 (by decide)) (by decide) rfl ?_
  have o63 := o62.s (b := 118) (j := 46) (v := some 139) (by decide)
  refine gn_aload_n (k' := 87) rfl rfl rfl ?_
  refine gn_iconst (k' := 88) rfl rfl ?_
  refine gn_newarray (k' := 89) (i := 140) (n := 2) (K' := K0.take 141) (c' := 141) (s' := 34178) rfl rfl rfl (by decide) rfl (fun j => z61 140 j (by decide)) rfl rfl rfl ?_
  have z64 := z61.up (i' := 141) (by decide)
  have o65 := o63.up (i' := 141) (by decide)
  refine gn_putR (k' := 90) rfl rfl (K0t_118 (by decide)) (by decide) rfl ?_
  have o66 := o65.s (b := 118) (j := 47) (v := some 140) (by decide)
  refine gn_aload_n (k' := 91) rfl rfl rfl ?_
  refine gn_getR (k' := 92) rfl rfl (K0t_118 (by decide)) (by decide) rfl rfl ?_
  refine gn_iconst (k' := 93) rfl rfl ?_
  refine gn_ldc2_w (k' := 94) rfl rfl ?_
  refine gn_lastore (k' := 95) rfl rfl (K0t_124 (by decide)) (by decide) (by decide) ?_
  have z67 := z64.s (b := 124) (j := 0) (v := 7499639) (by decide)
  refine gn_aload_n (k' := 96) rfl rfl rfl ?_
  refine gn_getR (k' := 97) rfl rfl (K0t_118 (by decide)) (by decide) rfl rfl ?_
  refine gn_iconst (k' := 98) rfl rfl ?_
  refine gn_ldc2_w (k' := 99) rfl rfl ?_
  refine gn_lastore (k' := 100) rfl rfl (K0t_124 (by decide)) (by decide) (by decide) ?_
  have z68 := z67.s (b := 124) (j := 1) (v := 7102839) (by decide)
  refine gn_aload_n (k' := 101) rfl rfl rfl ?_
  refine gn_getR (k' := 102) rfl rfl (K0t_118 (by decide)) (by decide) rfl rfl ?_
  refine gn_iconst (k' := 103) rfl rfl ?_
  refine gn_ldc2_w (k' := 104) rfl rfl ?_
  refine gn_lastore (k' := 105) rfl rfl (K0t_124 (by decide)) (by decide) (by decide) ?_
  have z69 := z68.s (b := 124) (j := 2) (v := 127996155553138) (by decide)
  refine gn_aload_n (k' := 106) rfl rfl rfl ?_
  refine gn_getR (k' := 107) rfl rfl (K0t_118 (by decide)) (by decide) rfl rfl ?_
  refine gn_iconst (k' := 108) rfl rfl ?_
  refine gn_ldc2_w (k' := 109) rfl rfl ?_
  refine gn_lastore (k' := 110) rfl rfl (K0t_124 (by decide)) (by decide) (by decide) ?_
  have z70 := z69.s (b := 124) (j := 3) (v := 512736126322) (by decide)
  refine gn_aload_n (k' := 111) rfl rfl rfl ?_
  refine gn_getR (k' := 112) rfl rfl (K0t_118 (by decide)) (by decide) rfl rfl ?_
  refine gn_iconst (k' := 113) rfl rfl ?_
  refine gn_ldc2_w (k' := 114) rfl rfl ?_
  refine gn_lastore (k' := 115) rfl rfl (K0t_124 (by decide)) (by decide) (by decide) ?_
  have z71 := z70.s (b := 124) (j := 4) (v := 2003398244) (by decide)
  refine gn_aload_n (k' := 116) rfl rfl rfl ?_
  refine gn_getR (k' := 117) rfl rfl (K0t_118 (by decide)) (by decide) rfl rfl ?_
  refine gn_iconst (k' := 118) rfl rfl ?_
  refine gn_ldc2_w (k' := 119) rfl rfl ?_
  refine gn_lastore (k' := 120) rfl rfl (K0t_124 (by decide)) (by decide) (by decide) ?_
  have z72 := z71.s (b := 124) (j := 5) (v := 6713191) (by decide)
  refine gn_aload_n (k' := 121) rfl rfl rfl ?_
  refine gn_getR (k' := 122) rfl rfl (K0t_118 (by decide)) (by decide) rfl rfl ?_
  refine gn_bipush (k' := 123) rfl rfl ?_
  refine gn_ldc2_w (k' := 124) rfl rfl ?_
  refine gn_lastore (k' := 125) rfl rfl (K0t_124 (by decide)) (by decide) (by decide) ?_
  have z73 := z72.s (b := 124) (j := 6) (v := 1685024626) (by decide)
  refine gn_aload_n (k' := 126) rfl rfl rfl ?_
  refine gn_getR (k' := 127) rfl rfl (K0t_118 (by decide)) (by decide) rfl rfl ?_
  refine gn_bipush (k' := 128) rfl rfl ?_
  refine gn_ldc2_w (k' := 129) rfl rfl ?_
  refine gn_lastore (k' := 130) rfl rfl (K0t_124 (by decide)) (by decide) (by decide) ?_
  have z74 := z73.s (b := 124) (j := 7) (v := 7173476) (by decide)
  refine gn_aload_n (k' := 131) rfl rfl rfl ?_
  refine gn_getR (k' := 132) rfl rfl (K0t_118 (by decide)) (by decide) rfl rfl ?_
  refine gn_bipush (k' := 133) rfl rfl ?_
  refine gn_ldc2_w (k' := 134) rfl rfl ?_
  refine gn_lastore (k' := 135) rfl rfl (K0t_124 (by decide)) (by decide) (by decide) ?_
  have z75 := z74.s (b := 124) (j := 8) (v := 119165551928690) (by decide)
  refine gn_aload_n (k' := 136) rfl rfl rfl ?_
  refine gn_getR (k' := 137) rfl rfl (K0t_118 (by decide)) (by decide) rfl rfl ?_
  refine gn_bipush (k' := 138) rfl rfl ?_
  refine gn_ldc2_w (k' := 139) rfl rfl ?_
  refine gn_lastore (k' := 140) rfl rfl (K0t_124 (by decide)) (by decide) (by decide) ?_
  have z76 := z75.s (b := 124) (j := 9) (v := 1751478884) (by decide)
  refine gn_aload_n (k' := 141) rfl rfl rfl ?_
  refine gn_getR (k' := 142) rfl rfl (K0t_118 (by decide)) (by decide) rfl rfl ?_
  refine gn_bipush (k' := 143) rfl rfl ?_
  refine gn_ldc2_w (k' := 144) rfl rfl ?_
  refine gn_lastore (k' := 145) rfl rfl (K0t_124 (by decide)) (by decide) (by decide) ?_
  have z77 := z76.s (b := 124) (j := 10) (v := 2003790950) (by decide)
  refine gn_aload_n (k' := 146) rfl rfl rfl ?_
  refine gn_getR (k' := 147) rfl rfl (K0t_118 (by decide)) (by decide) rfl rfl ?_
  refine gn_bipush (k' := 148) rfl rfl ?_
  refine gn_ldc2_w (k' := 149) rfl rfl ?_
  refine gn_lastore (k' := 150) rfl rfl (K0t_124 (by decide)) (by decide) (by decide) ?_
  have z78 := z77.s (b := 124) (j := 11) (v := 26479) (by decide)
  refine gn_aload_n (k' := 151) rfl rfl rfl ?_
  refine gn_getR (k' := 152) rfl rfl (K0t_118 (by decide)) (by decide) rfl rfl ?_
  refine gn_bipush (k' := 153) rfl rfl ?_
  refine gn_ldc2_w (k' := 154) rfl rfl ?_
  refine gn_lastore (k' := 155) rfl rfl (K0t_124 (by decide)) (by decide) (by decide) ?_
  have z79 := z78.s (b := 124) (j := 12) (v := 1936026732) (by decide)
  refine gn_aload_n (k' := 156) rfl rfl rfl ?_
  refine gn_getR (k' := 157) rfl rfl (K0t_118 (by decide)) (by decide) rfl rfl ?_
  refine gn_bipush (k' := 158) rfl rfl ?_
  refine gn_ldc2_w (k' := 159) rfl rfl ?_
  refine gn_lastore (k' := 160) rfl rfl (K0t_124 (by decide)) (by decide) (by decide) ?_
  have z80 := z79.s (b := 124) (j := 13) (v := 6452601) (by decide)
  refine gn_aload_n (k' := 161) rfl rfl rfl ?_
  refine gn_getR (k' := 162) rfl rfl (K0t_118 (by decide)) (by decide) rfl rfl ?_
  refine gn_bipush (k' := 163) rfl rfl ?_
  refine gn_ldc2_w (k' := 164) rfl rfl ?_
  refine gn_lastore (k' := 165) rfl rfl (K0t_124 (by decide)) (by decide) (by decide) ?_
  have z81 := z80.s (b := 124) (j := 14) (v := 6578553) (by decide)
  refine gn_aload_n (k' := 166) rfl rfl rfl ?_
  refine gn_getR (k' := 167) rfl rfl (K0t_118 (by decide)) (by decide) rfl rfl ?_
  refine gn_bipush (k' := 168) rfl rfl ?_
  refine gn_ldc2_w (k' := 169) rfl rfl ?_
  refine gn_lastore (k' := 170) rfl rfl (K0t_124 (by decide)) (by decide) (by decide) ?_
  have z82 := z81.s (b := 124) (j := 15) (v := 474214787188) (by decide)
  refine gn_aload_n (k' := 171) rfl rfl rfl ?_
  refine gn_getR (k' := 172) rfl rfl (K0t_118 (by decide)) (by decide) rfl rfl ?_
  refine gn_iconst (k' := 173) rfl rfl ?_
  refine gn_iconst (k' := 174) rfl rfl ?_
  refine gn_iastore (k' := 175) rfl rfl (K0t_120 (by decide)) (by decide) (by decide) ?_
  have z83 := z82.s (b := 120) (j := 2) (v := 1) (by decide)
  refine gn_aload_n (k' := 176) rfl rfl rfl ?_
  refine gn_getR (k' := 177) rfl rfl (K0t_118 (by decide)) (by decide) rfl rfl ?_
  refine gn_iconst (k' := 178) rfl rfl ?_
  refine gn_bipush (k' := 179) rfl rfl ?_
  refine gn_iastore (k' := 180) rfl rfl (K0t_120 (by decide)) (by decide) (by decide) ?_
  have z84 := z83.s (b := 120) (j := 3) (v := 99) (by decide)
  exact rn_vret rfl rfl
theorem in_X12_init_119_z {μ : Nat → Nat → Int} (hz : ZrI 119 μ) : ZrI 141 (m_set (m_set (m_set (m_set (m_set (m_set (m_set (m_set (m_set (m_set (m_set (m_set (m_set (m_set (m_set (m_set (m_set (m_set μ 124 0 7499639) 124 1 7102839) 124 2 127996155553138) 124 3 512736126322) 124 4 2003398244) 124 5 6713191) 124 6 1685024626) 124 7 7173476) 124 8 119165551928690) 124 9 1751478884) 124 10 2003790950) 124 11 26479) 124 12 1936026732) 124 13 6452601) 124 14 6578553) 124 15 474214787188) 120 2 1) 120 3 99) := (((((((((((((((((((hz.up (i' := 141) (by decide)).s (b := 124) (j := 0) (v := 7499639) (by decide)).s (b := 124) (j := 1) (v := 7102839) (by decide)).s (b := 124) (j := 2) (v := 127996155553138) (by decide)).s (b := 124) (j := 3) (v := 512736126322) (by decide)).s (b := 124) (j := 4) (v := 2003398244) (by decide)).s (b := 124) (j := 5) (v := 6713191) (by decide)).s (b := 124) (j := 6) (v := 1685024626) (by decide)).s (b := 124) (j := 7) (v := 7173476) (by decide)).s (b := 124) (j := 8) (v := 119165551928690) (by decide)).s (b := 124) (j := 9) (v := 1751478884) (by decide)).s (b := 124) (j := 10) (v := 2003790950) (by decide)).s (b := 124) (j := 11) (v := 26479) (by decide)).s (b := 124) (j := 12) (v := 1936026732) (by decide)).s (b := 124) (j := 13) (v := 6452601) (by decide)).s (b := 124) (j := 14) (v := 6578553) (by decide)).s (b := 124) (j := 15) (v := 474214787188) (by decide)).s (b := 120) (j := 2) (v := 1) (by decide)).s (b := 120) (j := 3) (v := 99) (by decide))
theorem in_X12_init_119_o {R : Nat → Nat → Option Nat} (hr : ZrO 119 R) : ZrO 141 (m_set (m_set (m_set (m_set (m_set (m_set (m_set (m_set (m_set (m_set (m_set (m_set (m_set (m_set (m_set (m_set (m_set (m_set (m_set (m_set (m_set (m_set R 118 1 (some 119)) 118 6 (some 120)) 118 7 (some 121)) 118 8 (some 122)) 118 9 (some 123)) 118 10 (some 124)) 118 24 (some 125)) 118 25 (some 126)) 118 26 (some 127)) 118 27 (some 128)) 118 28 (some 129)) 118 30 (some 130)) 118 32 (some 131)) 118 33 (some 132)) 118 35 (some 133)) 118 36 (some 134)) 118 38 (some 135)) 118 42 (some 136)) 118 43 (some 137)) 118 45 (some 138)) 118 46 (some 139)) 118 47 (some 140)) := (((((((((((((((((((((((hr.up (i' := 141) (by decide)).s (b := 118) (j := 1) (v := some 119) (by decide)).s (b := 118) (j := 6) (v := some 120) (by decide)).s (b := 118) (j := 7) (v := some 121) (by decide)).s (b := 118) (j := 8) (v := some 122) (by decide)).s (b := 118) (j := 9) (v := some 123) (by decide)).s (b := 118) (j := 10) (v := some 124) (by decide)).s (b := 118) (j := 24) (v := some 125) (by decide)).s (b := 118) (j := 25) (v := some 126) (by decide)).s (b := 118) (j := 26) (v := some 127) (by decide)).s (b := 118) (j := 27) (v := some 128) (by decide)).s (b := 118) (j := 28) (v := some 129) (by decide)).s (b := 118) (j := 30) (v := some 130) (by decide)).s (b := 118) (j := 32) (v := some 131) (by decide)).s (b := 118) (j := 33) (v := some 132) (by decide)).s (b := 118) (j := 35) (v := some 133) (by decide)).s (b := 118) (j := 36) (v := some 134) (by decide)).s (b := 118) (j := 38) (v := some 135) (by decide)).s (b := 118) (j := 42) (v := some 136) (by decide)).s (b := 118) (j := 43) (v := some 137) (by decide)).s (b := 118) (j := 45) (v := some 138) (by decide)).s (b := 118) (j := 46) (v := some 139) (by decide)).s (b := 118) (j := 47) (v := some 140) (by decide))
