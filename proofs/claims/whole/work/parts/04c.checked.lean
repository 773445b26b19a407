theorem xk_130 : (List.range (xm_n 130)).all (fun pc => xk_B 130 pc) = true := by decide +kernel
theorem xk_131 : (List.range (xm_n 131)).all (fun pc => xk_B 131 pc) = true := by decide +kernel
theorem xk_132 : (List.range (xm_n 132)).all (fun pc => xk_B 132 pc) = true := by decide +kernel
theorem xk_133 : (List.range (xm_n 133)).all (fun pc => xk_B 133 pc) = true := by decide +kernel
theorem xk_134 : (List.range (xm_n 134)).all (fun pc => xk_B 134 pc) = true := by decide +kernel
theorem xk_135 : (List.range (xm_n 135)).all (fun pc => xk_B 135 pc) = true := by decide +kernel
theorem xk_136 : (List.range (xm_n 136)).all (fun pc => xk_B 136 pc) = true := by decide +kernel
theorem xk_137 : (List.range (xm_n 137)).all (fun pc => xk_B 137 pc) = true := by decide +kernel
theorem xk_138 : (List.range (xm_n 138)).all (fun pc => xk_B 138 pc) = true := by decide +kernel
theorem xk_139 : (List.range (xm_n 139)).all (fun pc => xk_B 139 pc) = true := by decide +kernel
theorem xk_140 : (List.range (xm_n 140)).all (fun pc => xk_B 140 pc) = true := by decide +kernel
theorem xk_141 : (List.range (xm_n 141)).all (fun pc => xk_B 141 pc) = true := by decide +kernel
theorem xk_142 : (List.range (xm_n 142)).all (fun pc => xk_B 142 pc) = true := by decide +kernel
theorem xk_143 : (List.range (xm_n 143)).all (fun pc => xk_B 143 pc) = true := by decide +kernel
theorem xk_144 : (List.range (xm_n 144)).all (fun pc => xk_B 144 pc) = true := by decide +kernel
theorem xk_145 : (List.range (xm_n 145)).all (fun pc => xk_B 145 pc) = true := by decide +kernel
theorem xk_146 : (List.range (xm_n 146)).all (fun pc => xk_B 146 pc) = true := by decide +kernel
theorem xk_147 : (List.range (xm_n 147)).all (fun pc => xk_B 147 pc) = true := by decide +kernel
theorem xk_148 : (List.range (xm_n 148)).all (fun pc => xk_B 148 pc) = true := by decide +kernel
theorem xk_149 : (List.range (xm_n 149)).all (fun pc => xk_B 149 pc) = true := by decide +kernel
theorem xk_150 : (List.range (xm_n 150)).all (fun pc => xk_B 150 pc) = true := by decide +kernel
theorem xk_151 : (List.range (xm_n 151)).all (fun pc => xk_B 151 pc) = true := by decide +kernel
theorem xk_152 : (List.range (xm_n 152)).all (fun pc => xk_B 152 pc) = true := by decide +kernel
theorem xk_153 : (List.range (xm_n 153)).all (fun pc => xk_B 153 pc) = true := by decide +kernel
theorem xk_154 : (List.range (xm_n 154)).all (fun pc => xk_B 154 pc) = true := by decide +kernel
theorem xk_155 : (List.range (xm_n 155)).all (fun pc => xk_B 155 pc) = true := by decide +kernel
theorem xk_156 : (List.range (xm_n 156)).all (fun pc => xk_B 156 pc) = true := by decide +kernel
theorem xk_157 : (List.range (xm_n 157)).all (fun pc => xk_B 157 pc) = true := by decide +kernel
theorem xk_158 : (List.range (xm_n 158)).all (fun pc => xk_B 158 pc) = true := by decide +kernel
theorem xk_159 : (List.range (xm_n 159)).all (fun pc => xk_B 159 pc) = true := by decide +kernel
theorem xk_160 : (List.range (xm_n 160)).all (fun pc => xk_B 160 pc) = true := by decide +kernel
theorem xk_161 : (List.range (xm_n 161)).all (fun pc => xk_B 161 pc) = true := by decide +kernel
theorem xk_162 : (List.range (xm_n 162)).all (fun pc => xk_B 162 pc) = true := by decide +kernel
theorem xk_163 : (List.range (xm_n 163)).all (fun pc => xk_B 163 pc) = true := by decide +kernel
theorem xk_164 : (List.range (xm_n 164)).all (fun pc => xk_B 164 pc) = true := by decide +kernel
theorem xk_165 : (List.range (xm_n 165)).all (fun pc => xk_B 165 pc) = true := by decide +kernel
theorem xk_166 : (List.range (xm_n 166)).all (fun pc => xk_B 166 pc) = true := by decide +kernel
theorem xk_167 : (List.range (xm_n 167)).all (fun pc => xk_B 167 pc) = true := by decide +kernel
theorem xk_168 : (List.range (xm_n 168)).all (fun pc => xk_B 168 pc) = true := by decide +kernel
theorem xk_169 : (List.range (xm_n 169)).all (fun pc => xk_B 169 pc) = true := by decide +kernel
theorem xk_tab (mi : Nat) (h : mi < xt_n) : (List.range (xm_n mi)).all (fun pc => xk_B mi pc) = true := by
  have h : mi < 170 := h
  rcases Nat.lt_or_ge mi 85 with h1 | h1
  · rcases Nat.lt_or_ge mi 42 with h1 | h1
    · rcases Nat.lt_or_ge mi 21 with h1 | h1
      · rcases Nat.lt_or_ge mi 10 with h1 | h1
        · rcases Nat.lt_or_ge mi 5 with h1 | h1
          · rcases Nat.lt_or_ge mi 2 with h1 | h1
            · rcases Nat.lt_or_ge mi 1 with h1 | h1
              · obtain rfl : mi = 0 := by omega
                exact xk_0
              · obtain rfl : mi = 1 := by omega
                exact xk_1
            · rcases Nat.lt_or_ge mi 3 with h1 | h1
              · obtain rfl : mi = 2 := by omega
                exact xk_2
              · rcases Nat.lt_or_ge mi 4 with h1 | h1
                · obtain rfl : mi = 3 := by omega
                  exact xk_3
                · obtain rfl : mi = 4 := by omega
                  exact xk_4
          · rcases Nat.lt_or_ge mi 7 with h1 | h1
            · rcases Nat.lt_or_ge mi 6 with h1 | h1
              · obtain rfl : mi = 5 := by omega
                exact xk_5
              · obtain rfl : mi = 6 := by omega
                exact xk_6
            · rcases Nat.lt_or_ge mi 8 with h1 | h1
              · obtain rfl : mi = 7 := by omega
                exact xk_7
              · rcases Nat.lt_or_ge mi 9 with h1 | h1
                · obtain rfl : mi = 8 := by omega
                  exact xk_8
                · obtain rfl : mi = 9 := by omega
                  exact xk_9
        · rcases Nat.lt_or_ge mi 15 with h1 | h1
          · rcases Nat.lt_or_ge mi 12 with h1 | h1
            · rcases Nat.lt_or_ge mi 11 with h1 | h1
              · obtain rfl : mi = 10 := by omega
                exact xk_10
              · obtain rfl : mi = 11 := by omega
                exact xk_11
            · rcases Nat.lt_or_ge mi 13 with h1 | h1
              · obtain rfl : mi = 12 := by omega
                exact xk_12
              · rcases Nat.lt_or_ge mi 14 with h1 | h1
                · obtain rfl : mi = 13 := by omega
                  exact xk_13
                · obtain rfl : mi = 14 := by omega
                  exact xk_14
          · rcases Nat.lt_or_ge mi 18 with h1 | h1
            · rcases Nat.lt_or_ge mi 16 with h1 | h1
              · obtain rfl : mi = 15 := by omega
                exact xk_15
              · rcases Nat.lt_or_ge mi 17 with h1 | h1
                · obtain rfl : mi = 16 := by omega
                  exact xk_16
                · obtain rfl : mi = 17 := by omega
                  exact xk_17
            · rcases Nat.lt_or_ge mi 19 with h1 | h1
              · obtain rfl : mi = 18 := by omega
                exact xk_18
              · rcases Nat.lt_or_ge mi 20 with h1 | h1
                · obtain rfl : mi = 19 := by omega
                  exact xk_19
                · obtain rfl : mi = 20 := by omega
                  exact xk_20
      · rcases Nat.lt_or_ge mi 31 with h1 | h1
        · rcases Nat.lt_or_ge mi 26 with h1 | h1
          · rcases Nat.lt_or_ge mi 23 with h1 | h1
            · rcases Nat.lt_or_ge mi 22 with h1 | h1
              · obtain rfl : mi = 21 := by omega
                exact xk_21
              · obtain rfl : mi = 22 := by omega
                exact xk_22
            · rcases Nat.lt_or_ge mi 24 with h1 | h1
              · obtain rfl : mi = 23 := by omega
                exact xk_23
              · rcases Nat.lt_or_ge mi 25 with h1 | h1
                · obtain rfl : mi = 24 := by omega
                  exact xk_24
                · obtain rfl : mi = 25 := by omega
                  exact xk_25
          · rcases Nat.lt_or_ge mi 28 with h1 | h1
            · rcases Nat.lt_or_ge mi 27 with h1 | h1
              · obtain rfl : mi = 26 := by omega
                exact xk_26
              · obtain rfl : mi = 27 := by omega
                exact xk_27
            · rcases Nat.lt_or_ge mi 29 with h1 | h1
              · obtain rfl : mi = 28 := by omega
                exact xk_28
              · rcases Nat.lt_or_ge mi 30 with h1 | h1
                · obtain rfl : mi = 29 := by omega
                  exact xk_29
                · obtain rfl : mi = 30 := by omega
                  exact xk_30
        · rcases Nat.lt_or_ge mi 36 with h1 | h1
          · rcases Nat.lt_or_ge mi 33 with h1 | h1
            · rcases Nat.lt_or_ge mi 32 with h1 | h1
              · obtain rfl : mi = 31 := by omega
                exact xk_31
              · obtain rfl : mi = 32 := by omega
                exact xk_32
            · rcases Nat.lt_or_ge mi 34 with h1 | h1
              · obtain rfl : mi = 33 := by omega
                exact xk_33
              · rcases Nat.lt_or_ge mi 35 with h1 | h1
                · obtain rfl : mi = 34 := by omega
                  exact xk_34
                · obtain rfl : mi = 35 := by omega
                  exact xk_35
          · rcases Nat.lt_or_ge mi 39 with h1 | h1
            · rcases Nat.lt_or_ge mi 37 with h1 | h1
              · obtain rfl : mi = 36 := by omega
                exact xk_36
              · rcases Nat.lt_or_ge mi 38 with h1 | h1
                · obtain rfl : mi = 37 := by omega
                  exact xk_37
                · obtain rfl : mi = 38 := by omega
                  exact xk_38
            · rcases Nat.lt_or_ge mi 40 with h1 | h1
              · obtain rfl : mi = 39 := by omega
                exact xk_39
              · rcases Nat.lt_or_ge mi 41 with h1 | h1
                · obtain rfl : mi = 40 := by omega
                  exact xk_40
                · obtain rfl : mi = 41 := by omega
                  exact xk_41
    · rcases Nat.lt_or_ge mi 63 with h1 | h1
      · rcases Nat.lt_or_ge mi 52 with h1 | h1
        · rcases Nat.lt_or_ge mi 47 with h1 | h1
          · rcases Nat.lt_or_ge mi 44 with h1 | h1
            · rcases Nat.lt_or_ge mi 43 with h1 | h1
              · obtain rfl : mi = 42 := by omega
                exact xk_42
              · obtain rfl : mi = 43 := by omega
                exact xk_43
            · rcases Nat.lt_or_ge mi 45 with h1 | h1
              · obtain rfl : mi = 44 := by omega
                exact xk_44
              · rcases Nat.lt_or_ge mi 46 with h1 | h1
                · obtain rfl : mi = 45 := by omega
                  exact xk_45
                · obtain rfl : mi = 46 := by omega
                  exact xk_46
          · rcases Nat.lt_or_ge mi 49 with h1 | h1
            · rcases Nat.lt_or_ge mi 48 with h1 | h1
              · obtain rfl : mi = 47 := by omega
                exact xk_47
              · obtain rfl : mi = 48 := by omega
                exact xk_48
            · rcases Nat.lt_or_ge mi 50 with h1 | h1
              · obtain rfl : mi = 49 := by omega
                exact xk_49
              · rcases Nat.lt_or_ge mi 51 with h1 | h1
                · obtain rfl : mi = 50 := by omega
                  exact xk_50
                · obtain rfl : mi = 51 := by omega
                  exact xk_51
        · rcases Nat.lt_or_ge mi 57 with h1 | h1
          · rcases Nat.lt_or_ge mi 54 with h1 | h1
            · rcases Nat.lt_or_ge mi 53 with h1 | h1
              · obtain rfl : mi = 52 := by omega
                exact xk_52
              · obtain rfl : mi = 53 := by omega
                exact xk_53
            · rcases Nat.lt_or_ge mi 55 with h1 | h1
              · obtain rfl : mi = 54 := by omega
                exact xk_54
              · rcases Nat.lt_or_ge mi 56 with h1 | h1
                · obtain rfl : mi = 55 := by omega
                  exact xk_55
                · obtain rfl : mi = 56 := by omega
                  exact xk_56
          · rcases Nat.lt_or_ge mi 60 with h1 | h1
            · rcases Nat.lt_or_ge mi 58 with h1 | h1
              · obtain rfl : mi = 57 := by omega
                exact xk_57
              · rcases Nat.lt_or_ge mi 59 with h1 | h1
                · obtain rfl : mi = 58 := by omega
                  exact xk_58
                · obtain rfl : mi = 59 := by omega
                  exact xk_59
            · rcases Nat.lt_or_ge mi 61 with h1 | h1
              · obtain rfl : mi = 60 := by omega
                exact xk_60
              · rcases Nat.lt_or_ge mi 62 with h1 | h1
                · obtain rfl : mi = 61 := by omega
                  exact xk_61
                · obtain rfl : mi = 62 := by omega
                  exact xk_62
      · rcases Nat.lt_or_ge mi 74 with h1 | h1
        · rcases Nat.lt_or_ge mi 68 with h1 | h1
          · rcases Nat.lt_or_ge mi 65 with h1 | h1
            · rcases Nat.lt_or_ge mi 64 with h1 | h1
              · obtain rfl : mi = 63 := by omega
                exact xk_63
              · obtain rfl : mi = 64 := by omega
                exact xk_64
            · rcases Nat.lt_or_ge mi 66 with h1 | h1
              · obtain rfl : mi = 65 := by omega
                exact xk_65
              · rcases Nat.lt_or_ge mi 67 with h1 | h1
                · obtain rfl : mi = 66 := by omega
                  exact xk_66
                · obtain rfl : mi = 67 := by omega
                  exact xk_67
          · rcases Nat.lt_or_ge mi 71 with h1 | h1
            · rcases Nat.lt_or_ge mi 69 with h1 | h1
              · obtain rfl : mi = 68 := by omega
                exact xk_68
              · rcases Nat.lt_or_ge mi 70 with h1 | h1
                · obtain rfl : mi = 69 := by omega
                  exact xk_69
                · obtain rfl : mi = 70 := by omega
                  exact xk_70
            · rcases Nat.lt_or_ge mi 72 with h1 | h1
              · obtain rfl : mi = 71 := by omega
                exact xk_71
              · rcases Nat.lt_or_ge mi 73 with h1 | h1
                · obtain rfl : mi = 72 := by omega
                  exact xk_72
                · obtain rfl : mi = 73 := by omega
                  exact xk_73
        · rcases Nat.lt_or_ge mi 79 with h1 | h1
          · rcases Nat.lt_or_ge mi 76 with h1 | h1
            · rcases Nat.lt_or_ge mi 75 with h1 | h1
              · obtain rfl : mi = 74 := by omega
                exact xk_74
              · obtain rfl : mi = 75 := by omega
                exact xk_75
            · rcases Nat.lt_or_ge mi 77 with h1 | h1
              · obtain rfl : mi = 76 := by omega
                exact xk_76
              · rcases Nat.lt_or_ge mi 78 with h1 | h1
                · obtain rfl : mi = 77 := by omega
                  exact xk_77
                · obtain rfl : mi = 78 := by omega
                  exact xk_78
          · rcases Nat.lt_or_ge mi 82 with h1 | h1
            · rcases Nat.lt_or_ge mi 80 with h1 | h1
              · obtain rfl : mi = 79 := by omega
                exact xk_79
              · rcases Nat.lt_or_ge mi 81 with h1 | h1
                · obtain rfl : mi = 80 := by omega
                  exact xk_80
                · obtain rfl : mi = 81 := by omega
                  exact xk_81
            · rcases Nat.lt_or_ge mi 83 with h1 | h1
              · obtain rfl : mi = 82 := by omega
                exact xk_82
              · rcases Nat.lt_or_ge mi 84 with h1 | h1
                · obtain rfl : mi = 83 := by omega
                  exact xk_83
                · obtain rfl : mi = 84 := by omega
                  exact xk_84
  · rcases Nat.lt_or_ge mi 127 with h1 | h1
    · rcases Nat.lt_or_ge mi 106 with h1 | h1
      · rcases Nat.lt_or_ge mi 95 with h1 | h1
        · rcases Nat.lt_or_ge mi 90 with h1 | h1
          · rcases Nat.lt_or_ge mi 87 with h1 | h1
            · rcases Nat.lt_or_ge mi 86 with h1 | h1
              · obtain rfl : mi = 85 := by omega
                exact xk_85
              · obtain rfl : mi = 86 := by omega
                exact xk_86
            · rcases Nat.lt_or_ge mi 88 with h1 | h1
              · obtain rfl : mi = 87 := by omega
                exact xk_87
              · rcases Nat.lt_or_ge mi 89 with h1 | h1
                · obtain rfl : mi = 88 := by omega
                  exact xk_88
                · obtain rfl : mi = 89 := by omega
                  exact xk_89
          · rcases Nat.lt_or_ge mi 92 with h1 | h1
            · rcases Nat.lt_or_ge mi 91 with h1 | h1
              · obtain rfl : mi = 90 := by omega
                exact xk_90
              · obtain rfl : mi = 91 := by omega
                exact xk_91
            · rcases Nat.lt_or_ge mi 93 with h1 | h1
              · obtain rfl : mi = 92 := by omega
                exact xk_92
              · rcases Nat.lt_or_ge mi 94 with h1 | h1
                · obtain rfl : mi = 93 := by omega
                  exact xk_93
                · obtain rfl : mi = 94 := by omega
                  exact xk_94
        · rcases Nat.lt_or_ge mi 100 with h1 | h1
          · rcases Nat.lt_or_ge mi 97 with h1 | h1
            · rcases Nat.lt_or_ge mi 96 with h1 | h1
              · obtain rfl : mi = 95 := by omega
                exact xk_95
              · obtain rfl : mi = 96 := by omega
                exact xk_96
            · rcases Nat.lt_or_ge mi 98 with h1 | h1
              · obtain rfl : mi = 97 := by omega
                exact xk_97
              · rcases Nat.lt_or_ge mi 99 with h1 | h1
                · obtain rfl : mi = 98 := by omega
                  exact xk_98
                · obtain rfl : mi = 99 := by omega
                  exact xk_99
          · rcases Nat.lt_or_ge mi 103 with h1 | h1
            · rcases Nat.lt_or_ge mi 101 with h1 | h1
              · obtain rfl : mi = 100 := by omega
                exact xk_100
              · rcases Nat.lt_or_ge mi 102 with h1 | h1
                · obtain rfl : mi = 101 := by omega
                  exact xk_101
                · obtain rfl : mi = 102 := by omega
                  exact xk_102
            · rcases Nat.lt_or_ge mi 104 with h1 | h1
              · obtain rfl : mi = 103 := by omega
                exact xk_103
              · rcases Nat.lt_or_ge mi 105 with h1 | h1
                · obtain rfl : mi = 104 := by omega
                  exact xk_104
                · obtain rfl : mi = 105 := by omega
                  exact xk_105
      · rcases Nat.lt_or_ge mi 116 with h1 | h1
        · rcases Nat.lt_or_ge mi 111 with h1 | h1
          · rcases Nat.lt_or_ge mi 108 with h1 | h1
            · rcases Nat.lt_or_ge mi 107 with h1 | h1
              · obtain rfl : mi = 106 := by omega
                exact xk_106
              · obtain rfl : mi = 107 := by omega
                exact xk_107
            · rcases Nat.lt_or_ge mi 109 with h1 | h1
              · obtain rfl : mi = 108 := by omega
                exact xk_108
              · rcases Nat.lt_or_ge mi 110 with h1 | h1
                · obtain rfl : mi = 109 := by omega
                  exact xk_109
                · obtain rfl : mi = 110 := by omega
                  exact xk_110
          · rcases Nat.lt_or_ge mi 113 with h1 | h1
            · rcases Nat.lt_or_ge mi 112 with h1 | h1
              · obtain rfl : mi = 111 := by omega
                exact xk_111
              · obtain rfl : mi = 112 := by omega
                exact xk_112
            · rcases Nat.lt_or_ge mi 114 with h1 | h1
              · obtain rfl : mi = 113 := by omega
                exact xk_113
              · rcases Nat.lt_or_ge mi 115 with h1 | h1
                · obtain rfl : mi = 114 := by omega
                  exact xk_114
                · obtain rfl : mi = 115 := by omega
                  exact xk_115
        · rcases Nat.lt_or_ge mi 121 with h1 | h1
          · rcases Nat.lt_or_ge mi 118 with h1 | h1
            · rcases Nat.lt_or_ge mi 117 with h1 | h1
              · obtain rfl : mi = 116 := by omega
                exact xk_116
              · obtain rfl : mi = 117 := by omega
                exact xk_117
            · rcases Nat.lt_or_ge mi 119 with h1 | h1
              · obtain rfl : mi = 118 := by omega
                exact xk_118
              · rcases Nat.lt_or_ge mi 120 with h1 | h1
                · obtain rfl : mi = 119 := by omega
                  exact xk_119
                · obtain rfl : mi = 120 := by omega
                  exact xk_120
          · rcases Nat.lt_or_ge mi 124 with h1 | h1
            · rcases Nat.lt_or_ge mi 122 with h1 | h1
              · obtain rfl : mi = 121 := by omega
                exact xk_121
              · rcases Nat.lt_or_ge mi 123 with h1 | h1
                · obtain rfl : mi = 122 := by omega
                  exact xk_122
                · obtain rfl : mi = 123 := by omega
                  exact xk_123
            · rcases Nat.lt_or_ge mi 125 with h1 | h1
              · obtain rfl : mi = 124 := by omega
                exact xk_124
              · rcases Nat.lt_or_ge mi 126 with h1 | h1
                · obtain rfl : mi = 125 := by omega
                  exact xk_125
                · obtain rfl : mi = 126 := by omega
                  exact xk_126
    · rcases Nat.lt_or_ge mi 148 with h1 | h1
      · rcases Nat.lt_or_ge mi 137 with h1 | h1
        · rcases Nat.lt_or_ge mi 132 with h1 | h1
          · rcases Nat.lt_or_ge mi 129 with h1 | h1
            · rcases Nat.lt_or_ge mi 128 with h1 | h1
              · obtain rfl : mi = 127 := by omega
                exact xk_127
              · obtain rfl : mi = 128 := by omega
                exact xk_128
            · rcases Nat.lt_or_ge mi 130 with h1 | h1
              · obtain rfl : mi = 129 := by omega
                exact xk_129
              · rcases Nat.lt_or_ge mi 131 with h1 | h1
                · obtain rfl : mi = 130 := by omega
                  exact xk_130
                · obtain rfl : mi = 131 := by omega
                  exact xk_131
          · rcases Nat.lt_or_ge mi 134 with h1 | h1
            · rcases Nat.lt_or_ge mi 133 with h1 | h1
              · obtain rfl : mi = 132 := by omega
                exact xk_132
              · obtain rfl : mi = 133 := by omega
                exact xk_133
            · rcases Nat.lt_or_ge mi 135 with h1 | h1
              · obtain rfl : mi = 134 := by omega
                exact xk_134
              · rcases Nat.lt_or_ge mi 136 with h1 | h1
                · obtain rfl : mi = 135 := by omega
                  exact xk_135
                · obtain rfl : mi = 136 := by omega
                  exact xk_136
        · rcases Nat.lt_or_ge mi 142 with h1 | h1
          · rcases Nat.lt_or_ge mi 139 with h1 | h1
            · rcases Nat.lt_or_ge mi 138 with h1 | h1
              · obtain rfl : mi = 137 := by omega
                exact xk_137
              · obtain rfl : mi = 138 := by omega
                exact xk_138
            · rcases Nat.lt_or_ge mi 140 with h1 | h1
              · obtain rfl : mi = 139 := by omega
                exact xk_139
              · rcases Nat.lt_or_ge mi 141 with h1 | h1
                · obtain rfl : mi = 140 := by omega
                  exact xk_140
                · obtain rfl : mi = 141 := by omega
                  exact xk_141
          · rcases Nat.lt_or_ge mi 145 with h1 | h1
            · rcases Nat.lt_or_ge mi 143 with h1 | h1
              · obtain rfl : mi = 142 := by omega
                exact xk_142
              · rcases Nat.lt_or_ge mi 144 with h1 | h1
                · obtain rfl : mi = 143 := by omega
                  exact xk_143
                · obtain rfl : mi = 144 := by omega
                  exact xk_144
            · rcases Nat.lt_or_ge mi 146 with h1 | h1
              · obtain rfl : mi = 145 := by omega
                exact xk_145
              · rcases Nat.lt_or_ge mi 147 with h1 | h1
                · obtain rfl : mi = 146 := by omega
                  exact xk_146
                · obtain rfl : mi = 147 := by omega
                  exact xk_147
      · rcases Nat.lt_or_ge mi 159 with h1 | h1
        · rcases Nat.lt_or_ge mi 153 with h1 | h1
          · rcases Nat.lt_or_ge mi 150 with h1 | h1
            · rcases Nat.lt_or_ge mi 149 with h1 | h1
              · obtain rfl : mi = 148 := by omega
                exact xk_148
              · obtain rfl : mi = 149 := by omega
                exact xk_149
            · rcases Nat.lt_or_ge mi 151 with h1 | h1
              · obtain rfl : mi = 150 := by omega
                exact xk_150
              · rcases Nat.lt_or_ge mi 152 with h1 | h1
                · obtain rfl : mi = 151 := by omega
                  exact xk_151
                · obtain rfl : mi = 152 := by omega
                  exact xk_152
          · rcases Nat.lt_or_ge mi 156 with h1 | h1
            · rcases Nat.lt_or_ge mi 154 with h1 | h1
              · obtain rfl : mi = 153 := by omega
                exact xk_153
              · rcases Nat.lt_or_ge mi 155 with h1 | h1
                · obtain rfl : mi = 154 := by omega
                  exact xk_154
                · obtain rfl : mi = 155 := by omega
                  exact xk_155
            · rcases Nat.lt_or_ge mi 157 with h1 | h1
              · obtain rfl : mi = 156 := by omega
                exact xk_156
              · rcases Nat.lt_or_ge mi 158 with h1 | h1
                · obtain rfl : mi = 157 := by omega
                  exact xk_157
                · obtain rfl : mi = 158 := by omega
                  exact xk_158
        · rcases Nat.lt_or_ge mi 164 with h1 | h1
          · rcases Nat.lt_or_ge mi 161 with h1 | h1
            · rcases Nat.lt_or_ge mi 160 with h1 | h1
              · obtain rfl : mi = 159 := by omega
                exact xk_159
              · obtain rfl : mi = 160 := by omega
                exact xk_160
            · rcases Nat.lt_or_ge mi 162 with h1 | h1
              · obtain rfl : mi = 161 := by omega
                exact xk_161
              · rcases Nat.lt_or_ge mi 163 with h1 | h1
                · obtain rfl : mi = 162 := by omega
                  exact xk_162
                · obtain rfl : mi = 163 := by omega
                  exact xk_163
          · rcases Nat.lt_or_ge mi 167 with h1 | h1
            · rcases Nat.lt_or_ge mi 165 with h1 | h1
              · obtain rfl : mi = 164 := by omega
                exact xk_164
              · rcases Nat.lt_or_ge mi 166 with h1 | h1
                · obtain rfl : mi = 165 := by omega
                  exact xk_165
                · obtain rfl : mi = 166 := by omega
                  exact xk_166
            · rcases Nat.lt_or_ge mi 168 with h1 | h1
              · obtain rfl : mi = 167 := by omega
                exact xk_167
              · rcases Nat.lt_or_ge mi 169 with h1 | h1
                · obtain rfl : mi = 168 := by omega
                  exact xk_168
                · obtain rfl : mi = 169 := by omega
                  exact xk_169
theorem xc_tab : (List.range xc_l.length).all xcB = true := by decide +kernel
theorem xm_tab : (List.range (xt_n - 2)).all (fun a => xmB (a + 1)) = true := by decide +kernel
theorem xo_tab : xoB = true := by decide +kernel
