/-! WHAT MAKES NO CELL -/
section ST
/-- the constructors, and the law itself -/
def alM (m : Nat) : Bool := m == 0 || m == 33 || m == 46 || m == 51 || m == 59 || m == 65 || m == 74 || m == 80 || m == 119 || m == 181
def okI (m : Nat) (i : Instr) : Bool := match i with
  | .new cp => (nR m cp).isNone
  | .newarray .int => false
  | .newarray .boolean => false
  | .invokevirtual cp => match cR m cp with
    | some (k, _) => !alM k
    | none => true
  | .invokestatic cp => match cR m cp with
    | some (k, _) => !alM k
    | none => true
  | .invokespecial cp => match cR m cp with
    | some (k, _) => !alM k
    | none => true
  | _ => true
def okP (C : ByteArray) (m pc : Nat) : Bool := match decode C pc with
  | .ok (i, _) => okI m i
  | .error _ => true
def naM (m : Nat) : Bool := allB (fun pc => okP (mC m) m pc) (mC m).size
theorem naM_1 : naM 1 = true := by decide +kernel
theorem naM_2 : naM 2 = true := by decide +kernel
theorem naM_3 : naM 3 = true := by decide +kernel
theorem naM_4 : naM 4 = true := by decide +kernel
theorem naM_5 : naM 5 = true := by decide +kernel
theorem naM_6 : naM 6 = true := by decide +kernel
theorem naM_7 : naM 7 = true := by decide +kernel
theorem naM_8 : naM 8 = true := by decide +kernel
theorem naM_9 : naM 9 = true := by decide +kernel
theorem naM_10 : naM 10 = true := by decide +kernel
theorem naM_11 : naM 11 = true := by decide +kernel
theorem naM_12 : naM 12 = true := by decide +kernel
theorem naM_13 : naM 13 = true := by decide +kernel
theorem naM_14 : naM 14 = true := by decide +kernel
theorem naM_15 : naM 15 = true := by decide +kernel
theorem naM_16 : naM 16 = true := by decide +kernel
theorem naM_17 : naM 17 = true := by decide +kernel
theorem naM_18 : naM 18 = true := by decide +kernel
theorem naM_19 : naM 19 = true := by decide +kernel
theorem naM_20 : naM 20 = true := by decide +kernel
theorem naM_21 : naM 21 = true := by decide +kernel
theorem naM_22 : naM 22 = true := by decide +kernel
theorem naM_23 : naM 23 = true := by decide +kernel
theorem naM_24 : naM 24 = true := by decide +kernel
theorem naM_25 : naM 25 = true := by decide +kernel
theorem naM_26 : naM 26 = true := by decide +kernel
theorem naM_27 : naM 27 = true := by decide +kernel
theorem naM_28 : naM 28 = true := by decide +kernel
theorem naM_29 : naM 29 = true := by decide +kernel
theorem naM_30 : naM 30 = true := by decide +kernel
theorem naM_31 : naM 31 = true := by decide +kernel
theorem naM_32 : naM 32 = true := by decide +kernel
theorem naM_34 : naM 34 = true := by decide +kernel
theorem naM_35 : naM 35 = true := by decide +kernel
theorem naM_36 : naM 36 = true := by decide +kernel
theorem naM_37 : naM 37 = true := by decide +kernel
theorem naM_38 : naM 38 = true := by decide +kernel
theorem naM_39 : naM 39 = true := by decide +kernel
theorem naM_40 : naM 40 = true := by decide +kernel
theorem naM_41 : naM 41 = true := by decide +kernel
theorem naM_42 : naM 42 = true := by decide +kernel
theorem naM_43 : naM 43 = true := by decide +kernel
theorem naM_44 : naM 44 = true := by decide +kernel
theorem naM_45 : naM 45 = true := by decide +kernel
theorem naM_47 : naM 47 = true := by decide +kernel
theorem naM_48 : naM 48 = true := by decide +kernel
theorem naM_49 : naM 49 = true := by decide +kernel
theorem naM_50 : naM 50 = true := by decide +kernel
theorem naM_52 : naM 52 = true := by decide +kernel
theorem naM_53 : naM 53 = true := by decide +kernel
theorem naM_54 : naM 54 = true := by decide +kernel
theorem naM_55 : naM 55 = true := by decide +kernel
theorem naM_56 : naM 56 = true := by decide +kernel
theorem naM_57 : naM 57 = true := by decide +kernel
theorem naM_58 : naM 58 = true := by decide +kernel
theorem naM_60 : naM 60 = true := by decide +kernel
theorem naM_61 : naM 61 = true := by decide +kernel
theorem naM_62 : naM 62 = true := by decide +kernel
theorem naM_63 : naM 63 = true := by decide +kernel
theorem naM_64 : naM 64 = true := by decide +kernel
theorem naM_66 : naM 66 = true := by decide +kernel
theorem naM_67 : naM 67 = true := by decide +kernel
theorem naM_68 : naM 68 = true := by decide +kernel
theorem naM_69 : naM 69 = true := by decide +kernel
theorem naM_70 : naM 70 = true := by decide +kernel
theorem naM_71 : naM 71 = true := by decide +kernel
theorem naM_72 : naM 72 = true := by decide +kernel
theorem naM_73 : naM 73 = true := by decide +kernel
theorem naM_75 : naM 75 = true := by decide +kernel
theorem naM_76 : naM 76 = true := by decide +kernel
theorem naM_77 : naM 77 = true := by decide +kernel
theorem naM_78 : naM 78 = true := by decide +kernel
theorem naM_79 : naM 79 = true := by decide +kernel
theorem naM_81 : naM 81 = true := by decide +kernel
theorem naM_82 : naM 82 = true := by decide +kernel
theorem naM_83 : naM 83 = true := by decide +kernel
theorem naM_84 : naM 84 = true := by decide +kernel
theorem naM_85 : naM 85 = true := by decide +kernel
theorem naM_86 : naM 86 = true := by decide +kernel
theorem naM_87 : naM 87 = true := by decide +kernel
theorem naM_88 : naM 88 = true := by decide +kernel
theorem naM_89 : naM 89 = true := by decide +kernel
theorem naM_90 : naM 90 = true := by decide +kernel
theorem naM_91 : naM 91 = true := by decide +kernel
theorem naM_92 : naM 92 = true := by decide +kernel
theorem naM_93 : naM 93 = true := by decide +kernel
theorem naM_94 : naM 94 = true := by decide +kernel
theorem naM_95 : naM 95 = true := by decide +kernel
theorem naM_96 : naM 96 = true := by decide +kernel
theorem naM_97 : naM 97 = true := by decide +kernel
theorem naM_98 : naM 98 = true := by decide +kernel
theorem naM_99 : naM 99 = true := by decide +kernel
theorem naM_100 : naM 100 = true := by decide +kernel
theorem naM_101 : naM 101 = true := by decide +kernel
theorem naM_102 : naM 102 = true := by decide +kernel
theorem naM_103 : naM 103 = true := by decide +kernel
theorem naM_104 : naM 104 = true := by decide +kernel
theorem naM_105 : naM 105 = true := by decide +kernel
theorem naM_106 : naM 106 = true := by decide +kernel
theorem naM_107 : naM 107 = true := by decide +kernel
theorem naM_108 : naM 108 = true := by decide +kernel
theorem naM_109 : naM 109 = true := by decide +kernel
theorem naM_110 : naM 110 = true := by decide +kernel
theorem naM_111 : naM 111 = true := by decide +kernel
theorem naM_112 : naM 112 = true := by decide +kernel
theorem naM_113 : naM 113 = true := by decide +kernel
theorem naM_114 : naM 114 = true := by decide +kernel
theorem naM_115 : naM 115 = true := by decide +kernel
theorem naM_116 : naM 116 = true := by decide +kernel
theorem naM_117 : naM 117 = true := by decide +kernel
theorem naM_118 : naM 118 = true := by decide +kernel
theorem naM_120 : naM 120 = true := by decide +kernel
theorem naM_121 : naM 121 = true := by decide +kernel
theorem naM_122 : naM 122 = true := by decide +kernel
theorem naM_123 : naM 123 = true := by decide +kernel
theorem naM_124 : naM 124 = true := by decide +kernel
theorem naM_125 : naM 125 = true := by decide +kernel
theorem naM_126 : naM 126 = true := by decide +kernel
theorem naM_127 : naM 127 = true := by decide +kernel
theorem naM_128 : naM 128 = true := by decide +kernel
theorem naM_129 : naM 129 = true := by decide +kernel
theorem naM_130 : naM 130 = true := by decide +kernel
theorem naM_131 : naM 131 = true := by decide +kernel
theorem naM_132 : naM 132 = true := by decide +kernel
theorem naM_133 : naM 133 = true := by decide +kernel
theorem naM_134 : naM 134 = true := by decide +kernel
theorem naM_135 : naM 135 = true := by decide +kernel
theorem naM_136 : naM 136 = true := by decide +kernel
theorem naM_137 : naM 137 = true := by decide +kernel
theorem naM_138 : naM 138 = true := by decide +kernel
theorem naM_139 : naM 139 = true := by decide +kernel
theorem naM_140 : naM 140 = true := by decide +kernel
theorem naM_141 : naM 141 = true := by decide +kernel
theorem naM_142 : naM 142 = true := by decide +kernel
theorem naM_143 : naM 143 = true := by decide +kernel
theorem naM_144 : naM 144 = true := by decide +kernel
theorem naM_145 : naM 145 = true := by decide +kernel
theorem naM_146 : naM 146 = true := by decide +kernel
theorem naM_147 : naM 147 = true := by decide +kernel
theorem naM_148 : naM 148 = true := by decide +kernel
theorem naM_149 : naM 149 = true := by decide +kernel
theorem naM_150 : naM 150 = true := by decide +kernel
theorem naM_151 : naM 151 = true := by decide +kernel
theorem naM_152 : naM 152 = true := by decide +kernel
theorem naM_153 : naM 153 = true := by decide +kernel
theorem naM_154 : naM 154 = true := by decide +kernel
theorem naM_155 : naM 155 = true := by decide +kernel
theorem naM_156 : naM 156 = true := by decide +kernel
theorem naM_157 : naM 157 = true := by decide +kernel
theorem naM_158 : naM 158 = true := by decide +kernel
theorem naM_159 : naM 159 = true := by decide +kernel
theorem naM_160 : naM 160 = true := by decide +kernel
theorem naM_161 : naM 161 = true := by decide +kernel
theorem naM_162 : naM 162 = true := by decide +kernel
theorem naM_163 : naM 163 = true := by decide +kernel
theorem naM_164 : naM 164 = true := by decide +kernel
theorem naM_165 : naM 165 = true := by decide +kernel
theorem naM_166 : naM 166 = true := by decide +kernel
theorem naM_167 : naM 167 = true := by decide +kernel
theorem naM_168 : naM 168 = true := by decide +kernel
theorem naM_169 : naM 169 = true := by decide +kernel
theorem naM_170 : naM 170 = true := by decide +kernel
theorem naM_171 : naM 171 = true := by decide +kernel
theorem naM_172 : naM 172 = true := by decide +kernel
theorem naM_173 : naM 173 = true := by decide +kernel
theorem naM_174 : naM 174 = true := by decide +kernel
theorem naM_175 : naM 175 = true := by decide +kernel
theorem naM_176 : naM 176 = true := by decide +kernel
theorem naM_177 : naM 177 = true := by decide +kernel
theorem naM_178 : naM 178 = true := by decide +kernel
theorem naM_179 : naM 179 = true := by decide +kernel
theorem naM_180 : naM 180 = true := by decide +kernel
theorem naM_up {n : Nat} (x : ∀ m, m < n → alM m = false → naM m = true) (y : alM n = false → naM n = true) : ∀ m, m < n + 1 → alM m = false → naM m = true := by
  intro m hm
  by_cases c : m = n
  · rw [c]; exact y
  · exact x m (by omega)
theorem naM_all : ∀ m, m < 181 → alM m = false → naM m = true := by
  have q0 : ∀ m, m < 0 → alM m = false → naM m = true := fun m hm => by omega
  have q1 := naM_up (n := 0) q0 (fun q => absurd q (by decide))
  have q2 := naM_up (n := 1) q1 (fun _ => naM_1)
  have q3 := naM_up (n := 2) q2 (fun _ => naM_2)
  have q4 := naM_up (n := 3) q3 (fun _ => naM_3)
  have q5 := naM_up (n := 4) q4 (fun _ => naM_4)
  have q6 := naM_up (n := 5) q5 (fun _ => naM_5)
  have q7 := naM_up (n := 6) q6 (fun _ => naM_6)
  have q8 := naM_up (n := 7) q7 (fun _ => naM_7)
  have q9 := naM_up (n := 8) q8 (fun _ => naM_8)
  have q10 := naM_up (n := 9) q9 (fun _ => naM_9)
  have q11 := naM_up (n := 10) q10 (fun _ => naM_10)
  have q12 := naM_up (n := 11) q11 (fun _ => naM_11)
  have q13 := naM_up (n := 12) q12 (fun _ => naM_12)
  have q14 := naM_up (n := 13) q13 (fun _ => naM_13)
  have q15 := naM_up (n := 14) q14 (fun _ => naM_14)
  have q16 := naM_up (n := 15) q15 (fun _ => naM_15)
  have q17 := naM_up (n := 16) q16 (fun _ => naM_16)
  have q18 := naM_up (n := 17) q17 (fun _ => naM_17)
  have q19 := naM_up (n := 18) q18 (fun _ => naM_18)
  have q20 := naM_up (n := 19) q19 (fun _ => naM_19)
  have q21 := naM_up (n := 20) q20 (fun _ => naM_20)
  have q22 := naM_up (n := 21) q21 (fun _ => naM_21)
  have q23 := naM_up (n := 22) q22 (fun _ => naM_22)
  have q24 := naM_up (n := 23) q23 (fun _ => naM_23)
  have q25 := naM_up (n := 24) q24 (fun _ => naM_24)
  have q26 := naM_up (n := 25) q25 (fun _ => naM_25)
  have q27 := naM_up (n := 26) q26 (fun _ => naM_26)
  have q28 := naM_up (n := 27) q27 (fun _ => naM_27)
  have q29 := naM_up (n := 28) q28 (fun _ => naM_28)
  have q30 := naM_up (n := 29) q29 (fun _ => naM_29)
  have q31 := naM_up (n := 30) q30 (fun _ => naM_30)
  have q32 := naM_up (n := 31) q31 (fun _ => naM_31)
  have q33 := naM_up (n := 32) q32 (fun _ => naM_32)
  have q34 := naM_up (n := 33) q33 (fun q => absurd q (by decide))
  have q35 := naM_up (n := 34) q34 (fun _ => naM_34)
  have q36 := naM_up (n := 35) q35 (fun _ => naM_35)
  have q37 := naM_up (n := 36) q36 (fun _ => naM_36)
  have q38 := naM_up (n := 37) q37 (fun _ => naM_37)
  have q39 := naM_up (n := 38) q38 (fun _ => naM_38)
  have q40 := naM_up (n := 39) q39 (fun _ => naM_39)
  have q41 := naM_up (n := 40) q40 (fun _ => naM_40)
  have q42 := naM_up (n := 41) q41 (fun _ => naM_41)
  have q43 := naM_up (n := 42) q42 (fun _ => naM_42)
  have q44 := naM_up (n := 43) q43 (fun _ => naM_43)
  have q45 := naM_up (n := 44) q44 (fun _ => naM_44)
  have q46 := naM_up (n := 45) q45 (fun _ => naM_45)
  have q47 := naM_up (n := 46) q46 (fun q => absurd q (by decide))
  have q48 := naM_up (n := 47) q47 (fun _ => naM_47)
  have q49 := naM_up (n := 48) q48 (fun _ => naM_48)
  have q50 := naM_up (n := 49) q49 (fun _ => naM_49)
  have q51 := naM_up (n := 50) q50 (fun _ => naM_50)
  have q52 := naM_up (n := 51) q51 (fun q => absurd q (by decide))
  have q53 := naM_up (n := 52) q52 (fun _ => naM_52)
  have q54 := naM_up (n := 53) q53 (fun _ => naM_53)
  have q55 := naM_up (n := 54) q54 (fun _ => naM_54)
  have q56 := naM_up (n := 55) q55 (fun _ => naM_55)
  have q57 := naM_up (n := 56) q56 (fun _ => naM_56)
  have q58 := naM_up (n := 57) q57 (fun _ => naM_57)
  have q59 := naM_up (n := 58) q58 (fun _ => naM_58)
  have q60 := naM_up (n := 59) q59 (fun q => absurd q (by decide))
  have q61 := naM_up (n := 60) q60 (fun _ => naM_60)
  have q62 := naM_up (n := 61) q61 (fun _ => naM_61)
  have q63 := naM_up (n := 62) q62 (fun _ => naM_62)
  have q64 := naM_up (n := 63) q63 (fun _ => naM_63)
  have q65 := naM_up (n := 64) q64 (fun _ => naM_64)
  have q66 := naM_up (n := 65) q65 (fun q => absurd q (by decide))
  have q67 := naM_up (n := 66) q66 (fun _ => naM_66)
  have q68 := naM_up (n := 67) q67 (fun _ => naM_67)
  have q69 := naM_up (n := 68) q68 (fun _ => naM_68)
  have q70 := naM_up (n := 69) q69 (fun _ => naM_69)
  have q71 := naM_up (n := 70) q70 (fun _ => naM_70)
  have q72 := naM_up (n := 71) q71 (fun _ => naM_71)
  have q73 := naM_up (n := 72) q72 (fun _ => naM_72)
  have q74 := naM_up (n := 73) q73 (fun _ => naM_73)
  have q75 := naM_up (n := 74) q74 (fun q => absurd q (by decide))
  have q76 := naM_up (n := 75) q75 (fun _ => naM_75)
  have q77 := naM_up (n := 76) q76 (fun _ => naM_76)
  have q78 := naM_up (n := 77) q77 (fun _ => naM_77)
  have q79 := naM_up (n := 78) q78 (fun _ => naM_78)
  have q80 := naM_up (n := 79) q79 (fun _ => naM_79)
  have q81 := naM_up (n := 80) q80 (fun q => absurd q (by decide))
  have q82 := naM_up (n := 81) q81 (fun _ => naM_81)
  have q83 := naM_up (n := 82) q82 (fun _ => naM_82)
  have q84 := naM_up (n := 83) q83 (fun _ => naM_83)
  have q85 := naM_up (n := 84) q84 (fun _ => naM_84)
  have q86 := naM_up (n := 85) q85 (fun _ => naM_85)
  have q87 := naM_up (n := 86) q86 (fun _ => naM_86)
  have q88 := naM_up (n := 87) q87 (fun _ => naM_87)
  have q89 := naM_up (n := 88) q88 (fun _ => naM_88)
  have q90 := naM_up (n := 89) q89 (fun _ => naM_89)
  have q91 := naM_up (n := 90) q90 (fun _ => naM_90)
  have q92 := naM_up (n := 91) q91 (fun _ => naM_91)
  have q93 := naM_up (n := 92) q92 (fun _ => naM_92)
  have q94 := naM_up (n := 93) q93 (fun _ => naM_93)
  have q95 := naM_up (n := 94) q94 (fun _ => naM_94)
  have q96 := naM_up (n := 95) q95 (fun _ => naM_95)
  have q97 := naM_up (n := 96) q96 (fun _ => naM_96)
  have q98 := naM_up (n := 97) q97 (fun _ => naM_97)
  have q99 := naM_up (n := 98) q98 (fun _ => naM_98)
  have q100 := naM_up (n := 99) q99 (fun _ => naM_99)
  have q101 := naM_up (n := 100) q100 (fun _ => naM_100)
  have q102 := naM_up (n := 101) q101 (fun _ => naM_101)
  have q103 := naM_up (n := 102) q102 (fun _ => naM_102)
  have q104 := naM_up (n := 103) q103 (fun _ => naM_103)
  have q105 := naM_up (n := 104) q104 (fun _ => naM_104)
  have q106 := naM_up (n := 105) q105 (fun _ => naM_105)
  have q107 := naM_up (n := 106) q106 (fun _ => naM_106)
  have q108 := naM_up (n := 107) q107 (fun _ => naM_107)
  have q109 := naM_up (n := 108) q108 (fun _ => naM_108)
  have q110 := naM_up (n := 109) q109 (fun _ => naM_109)
  have q111 := naM_up (n := 110) q110 (fun _ => naM_110)
  have q112 := naM_up (n := 111) q111 (fun _ => naM_111)
  have q113 := naM_up (n := 112) q112 (fun _ => naM_112)
  have q114 := naM_up (n := 113) q113 (fun _ => naM_113)
  have q115 := naM_up (n := 114) q114 (fun _ => naM_114)
  have q116 := naM_up (n := 115) q115 (fun _ => naM_115)
  have q117 := naM_up (n := 116) q116 (fun _ => naM_116)
  have q118 := naM_up (n := 117) q117 (fun _ => naM_117)
  have q119 := naM_up (n := 118) q118 (fun _ => naM_118)
  have q120 := naM_up (n := 119) q119 (fun q => absurd q (by decide))
  have q121 := naM_up (n := 120) q120 (fun _ => naM_120)
  have q122 := naM_up (n := 121) q121 (fun _ => naM_121)
  have q123 := naM_up (n := 122) q122 (fun _ => naM_122)
  have q124 := naM_up (n := 123) q123 (fun _ => naM_123)
  have q125 := naM_up (n := 124) q124 (fun _ => naM_124)
  have q126 := naM_up (n := 125) q125 (fun _ => naM_125)
  have q127 := naM_up (n := 126) q126 (fun _ => naM_126)
  have q128 := naM_up (n := 127) q127 (fun _ => naM_127)
  have q129 := naM_up (n := 128) q128 (fun _ => naM_128)
  have q130 := naM_up (n := 129) q129 (fun _ => naM_129)
  have q131 := naM_up (n := 130) q130 (fun _ => naM_130)
  have q132 := naM_up (n := 131) q131 (fun _ => naM_131)
  have q133 := naM_up (n := 132) q132 (fun _ => naM_132)
  have q134 := naM_up (n := 133) q133 (fun _ => naM_133)
  have q135 := naM_up (n := 134) q134 (fun _ => naM_134)
  have q136 := naM_up (n := 135) q135 (fun _ => naM_135)
  have q137 := naM_up (n := 136) q136 (fun _ => naM_136)
  have q138 := naM_up (n := 137) q137 (fun _ => naM_137)
  have q139 := naM_up (n := 138) q138 (fun _ => naM_138)
  have q140 := naM_up (n := 139) q139 (fun _ => naM_139)
  have q141 := naM_up (n := 140) q140 (fun _ => naM_140)
  have q142 := naM_up (n := 141) q141 (fun _ => naM_141)
  have q143 := naM_up (n := 142) q142 (fun _ => naM_142)
  have q144 := naM_up (n := 143) q143 (fun _ => naM_143)
  have q145 := naM_up (n := 144) q144 (fun _ => naM_144)
  have q146 := naM_up (n := 145) q145 (fun _ => naM_145)
  have q147 := naM_up (n := 146) q146 (fun _ => naM_146)
  have q148 := naM_up (n := 147) q147 (fun _ => naM_147)
  have q149 := naM_up (n := 148) q148 (fun _ => naM_148)
  have q150 := naM_up (n := 149) q149 (fun _ => naM_149)
  have q151 := naM_up (n := 150) q150 (fun _ => naM_150)
  have q152 := naM_up (n := 151) q151 (fun _ => naM_151)
  have q153 := naM_up (n := 152) q152 (fun _ => naM_152)
  have q154 := naM_up (n := 153) q153 (fun _ => naM_153)
  have q155 := naM_up (n := 154) q154 (fun _ => naM_154)
  have q156 := naM_up (n := 155) q155 (fun _ => naM_155)
  have q157 := naM_up (n := 156) q156 (fun _ => naM_156)
  have q158 := naM_up (n := 157) q157 (fun _ => naM_157)
  have q159 := naM_up (n := 158) q158 (fun _ => naM_158)
  have q160 := naM_up (n := 159) q159 (fun _ => naM_159)
  have q161 := naM_up (n := 160) q160 (fun _ => naM_160)
  have q162 := naM_up (n := 161) q161 (fun _ => naM_161)
  have q163 := naM_up (n := 162) q162 (fun _ => naM_162)
  have q164 := naM_up (n := 163) q163 (fun _ => naM_163)
  have q165 := naM_up (n := 164) q164 (fun _ => naM_164)
  have q166 := naM_up (n := 165) q165 (fun _ => naM_165)
  have q167 := naM_up (n := 166) q166 (fun _ => naM_166)
  have q168 := naM_up (n := 167) q167 (fun _ => naM_167)
  have q169 := naM_up (n := 168) q168 (fun _ => naM_168)
  have q170 := naM_up (n := 169) q169 (fun _ => naM_169)
  have q171 := naM_up (n := 170) q170 (fun _ => naM_170)
  have q172 := naM_up (n := 171) q171 (fun _ => naM_171)
  have q173 := naM_up (n := 172) q172 (fun _ => naM_172)
  have q174 := naM_up (n := 173) q173 (fun _ => naM_173)
  have q175 := naM_up (n := 174) q174 (fun _ => naM_174)
  have q176 := naM_up (n := 175) q175 (fun _ => naM_175)
  have q177 := naM_up (n := 176) q176 (fun _ => naM_176)
  have q178 := naM_up (n := 177) q177 (fun _ => naM_177)
  have q179 := naM_up (n := 178) q178 (fun _ => naM_178)
  have q180 := naM_up (n := 179) q179 (fun _ => naM_179)
  have q181 := naM_up (n := 180) q180 (fun _ => naM_180)
  exact q181
end ST
