/-! WHAT MAKES NO CELL -/
section ST
/-- the constructors, and the law itself -/
def alM (m : Nat) : Bool := m == 0 || m == 33 || m == 46 || m == 51 || m == 59 || m == 65 || m == 74 || m == 80 || m == 119 || m == 181
def okI (m : Nat) (i : Instr) : Bool := match i with
  | .new cp => (nR m cp).isNone
  | .newarray .int => false
  | .newarray .boolean => false
  | .invokevirtual cp => match cR m cp with
    | some (k, _) => !alM k
    | none => true
  | .invokestatic cp => match cR m cp with
    | some (k, _) => !alM k
    | none => true
  | .invokespecial cp => match cR m cp with
    | some (k, _) => !alM k
    | none => true
  | _ => true
def okP (C : ByteArray) (m pc : Nat) : Bool := match decode C pc with
  | .ok (i, _) => okI m i
  | .error _ => true
def naM (m : Nat) : Bool := allB (fun pc => okP (mC m) m pc) (mC m).size
theorem naM_1 : naM 1 = true := by decide +kernel
theorem naM_2 : naM 2 = true := by decide +kernel
theorem naM_3 : naM 3 = true := by decide +kernel
theorem naM_4 : naM 4 = true := by decide +kernel
theorem naM_5 : naM 5 = true := by decide +kernel
theorem naM_6 : naM 6 = true := by decide +kernel
theorem naM_7 : naM 7 = true := by decide +kernel
theorem naM_8 : naM 8 = true := by decide +kernel
theorem naM_9 : naM 9 = true := by decide +kernel
theorem naM_10 : naM 10 = true := by decide +kernel
theorem naM_11 : naM 11 = true := by decide +kernel
theorem naM_12 : naM 12 = true := by decide +kernel
theorem naM_13 : naM 13 = true := by decide +kernel
theorem naM_14 : naM 14 = true := by decide +kernel
theorem naM_15 : naM 15 = true := by decide +kernel
theorem naM_16 : naM 16 = true := by decide +kernel
theorem naM_17 : naM 17 = true := by decide +kernel
theorem naM_18 : naM 18 = true := by decide +kernel
theorem naM_19 : naM 19 = true := by decide +kernel
theorem naM_20 : naM 20 = true := by decide +kernel
theorem naM_21 : naM 21 = true := by decide +kernel
theorem naM_22 : naM 22 = true := by decide +kernel
theorem naM_23 : naM 23 = true := by decide +kernel
theorem naM_24 : naM 24 = true := by decide +kernel
theorem naM_25 : naM 25 = true := by decide +kernel
theorem naM_26 : naM 26 = true := by decide +kernel
theorem naM_27 : naM 27 = true := by decide +kernel
theorem naM_28 : naM 28 = true := by decide +kernel
theorem naM_29 : naM 29 = true := by decide +kernel
theorem naM_30 : naM 30 = true := by decide +kernel
theorem naM_31 : naM 31 = true := by decide +kernel
theorem naM_32 : naM 32 = true := by decide +kernel
theorem naM_34 : naM 34 = true := by decide +kernel
theorem naM_35 : naM 35 = true := by decide +kernel
theorem naM_36 : naM 36 = true := by decide +kernel
theorem naM_37 : naM 37 = true := by decide +kernel
theorem naM_38 : naM 38 = true := by decide +kernel
theorem naM_39 : naM 39 = true := by decide +kernel
theorem naM_40 : naM 40 = true := by decide +kernel
theorem naM_41 : naM 41 = true := by decide +kernel
theorem naM_42 : naM 42 = true := by decide +kernel
theorem naM_43 : naM 43 = true := by decide +kernel
theorem naM_44 : naM 44 = true := by decide +kernel
theorem naM_45 : naM 45 = true := by decide +kernel
theorem naM_47 : naM 47 = true := by decide +kernel
theorem naM_48 : naM 48 = true := by decide +kernel
theorem naM_49 : naM 49 = true := by decide +kernel
theorem naM_50 : naM 50 = true := by decide +kernel
theorem naM_52 : naM 52 = true := by decide +kernel
theorem naM_53 : naM 53 = true := by decide +kernel
theorem naM_54 : naM 54 = true := by decide +kernel
theorem naM_55 : naM 55 = true := by decide +kernel
theorem naM_56 : naM 56 = true := by decide +kernel
theorem naM_57 : naM 57 = true := by decide +kernel
theorem naM_58 : naM 58 = true := by decide +kernel
theorem naM_60 : naM 60 = true := by decide +kernel
theorem naM_61 : naM 61 = true := by decide +kernel
theorem naM_62 : naM 62 = true := by decide +kernel
theorem naM_63 : naM 63 = true := by decide +kernel
theorem naM_64 : naM 64 = true := by decide +kernel
theorem naM_66 : naM 66 = true := by decide +kernel
theorem naM_67 : naM 67 = true := by decide +kernel
theorem naM_68 : naM 68 = true := by decide +kernel
theorem naM_69 : naM 69 = true := by decide +kernel
theorem naM_70 : naM 70 = true := by decide +kernel
theorem naM_71 : naM 71 = true := by decide +kernel
theorem naM_72 : naM 72 = true := by decide +kernel
theorem naM_73 : naM 73 = true := by decide +kernel
theorem naM_75 : naM 75 = true := by decide +kernel
theorem naM_76 : naM 76 = true := by decide +kernel
theorem naM_77 : naM 77 = true := by decide +kernel
theorem naM_78 : naM 78 = true := by decide +kernel
theorem naM_79 : naM 79 = true := by decide +kernel
theorem naM_81 : naM 81 = true := by decide +kernel
theorem naM_82 : naM 82 = true := by decide +kernel
theorem naM_83 : naM 83 = true := by decide +kernel
theorem naM_84 : naM 84 = true := by decide +kernel
theorem naM_85 : naM 85 = true := by decide +kernel
theorem naM_86 : naM 86 = true := by decide +kernel
theorem naM_87 : naM 87 = true := by decide +kernel
theorem naM_88 : naM 88 = true := by decide +kernel
theorem naM_89 : naM 89 = true := by decide +kernel
theorem naM_90 : naM 90 = true := by decide +kernel
theorem naM_91 : naM 91 = true := by decide +kernel
theorem naM_92 : naM 92 = true := by decide +kernel
theorem naM_93 : naM 93 = true := by decide +kernel
theorem naM_94 : naM 94 = true := by decide +kernel
theorem naM_95 : naM 95 = true := by decide +kernel
theorem naM_96 : naM 96 = true := by decide +kernel
theorem naM_97 : naM 97 = true := by decide +kernel
theorem naM_98 : naM 98 = true := by decide +kernel
theorem naM_99 : naM 99 = true := by decide +kernel
theorem naM_100 : naM 100 = true := by decide +kernel
theorem naM_101 : naM 101 = true := by decide +kernel
theorem naM_102 : naM 102 = true := by decide +kernel
theorem naM_103 : naM 103 = true := by decide +kernel
theorem naM_104 : naM 104 = true := by decide +kernel
theorem naM_105 : naM 105 = true := by decide +kernel
theorem naM_106 : naM 106 = true := by decide +kernel
theorem naM_107 : naM 107 = true := by decide +kernel
theorem naM_108 : naM 108 = true := by decide +kernel
theorem naM_109 : naM 109 = true := by decide +kernel
theorem naM_110 : naM 110 = true := by decide +kernel
theorem naM_111 : naM 111 = true := by decide +kernel
theorem naM_112 : naM 112 = true := by decide +kernel
theorem naM_113 : naM 113 = true := by decide +kernel
theorem naM_114 : naM 114 = true := by decide +kernel
theorem naM_115 : naM 115 = true := by decide +kernel
theorem naM_116 : naM 116 = true := by decide +kernel
theorem naM_117 : naM 117 = true := by decide +kernel
theorem naM_118 : naM 118 = true := by decide +kernel
theorem naM_120 : naM 120 = true := by decide +kernel
theorem naM_121 : naM 121 = true := by decide +kernel
theorem naM_122 : naM 122 = true := by decide +kernel
theorem naM_123 : naM 123 = true := by decide +kernel
theorem naM_124 : naM 124 = true := by decide +kernel
theorem naM_125 : naM 125 = true := by decide +kernel
theorem naM_126 : naM 126 = true := by decide +kernel
theorem naM_127 : naM 127 = true := by decide +kernel
theorem naM_128 : naM 128 = true := by decide +kernel
theorem naM_129 : naM 129 = true := by decide +kernel
theorem naM_130 : naM 130 = true := by decide +kernel
theorem naM_131 : naM 131 = true := by decide +kernel
theorem naM_132 : naM 132 = true := by decide +kernel
theorem naM_133 : naM 133 = true := by decide +kernel
theorem naM_134 : naM 134 = true := by decide +kernel
theorem naM_135 : naM 135 = true := by decide +kernel
theorem naM_136 : naM 136 = true := by decide +kernel
theorem naM_137 : naM 137 = true := by decide +kernel
theorem naM_138 : naM 138 = true := by decide +kernel
theorem naM_139 : naM 139 = true := by decide +kernel
theorem naM_140 : naM 140 = true := by decide +kernel
theorem naM_141 : naM 141 = true := by decide +kernel
theorem naM_142 : naM 142 = true := by decide +kernel
theorem naM_143 : naM 143 = true := by decide +kernel
theorem naM_144 : naM 144 = true := by decide +kernel
theorem naM_145 : naM 145 = true := by decide +kernel
theorem naM_146 : naM 146 = true := by decide +kernel
theorem naM_147 : naM 147 = true := by decide +kernel
theorem naM_148 : naM 148 = true := by decide +kernel
theorem naM_149 : naM 149 = true := by decide +kernel
theorem naM_150 : naM 150 = true := by decide +kernel
theorem naM_151 : naM 151 = true := by decide +kernel
theorem naM_152 : naM 152 = true := by decide +kernel
theorem naM_153 : naM 153 = true := by decide +kernel
theorem naM_154 : naM 154 = true := by decide +kernel
theorem naM_155 : naM 155 = true := by decide +kernel
theorem naM_156 : naM 156 = true := by decide +kernel
theorem naM_157 : naM 157 = true := by decide +kernel
theorem naM_158 : naM 158 = true := by decide +kernel
theorem naM_159 : naM 159 = true := by decide +kernel
theorem naM_160 : naM 160 = true := by decide +kernel
theorem naM_161 : naM 161 = true := by decide +kernel
theorem naM_162 : naM 162 = true := by decide +kernel
theorem naM_163 : naM 163 = true := by decide +kernel
theorem naM_164 : naM 164 = true := by decide +kernel
theorem naM_165 : naM 165 = true := by decide +kernel
theorem naM_166 : naM 166 = true := by decide +kernel
theorem naM_167 : naM 167 = true := by decide +kernel
theorem naM_168 : naM 168 = true := by decide +kernel
theorem naM_169 : naM 169 = true := by decide +kernel
theorem naM_170 : naM 170 = true := by decide +kernel
theorem naM_171 : naM 171 = true := by decide +kernel
theorem naM_172 : naM 172 = true := by decide +kernel
theorem naM_173 : naM 173 = true := by decide +kernel
theorem naM_174 : naM 174 = true := by decide +kernel
theorem naM_175 : naM 175 = true := by decide +kernel
theorem naM_176 : naM 176 = true := by decide +kernel
theorem naM_177 : naM 177 = true := by decide +kernel
theorem naM_178 : naM 178 = true := by decide +kernel
theorem naM_179 : naM 179 = true := by decide +kernel
theorem naM_180 : naM 180 = true := by decide +kernel
end ST
