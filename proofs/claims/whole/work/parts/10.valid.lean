theorem x_valid : xVal xT xY xB xLn xRt xPs := x_valid_of (by
  unfold xAl
  exact xcm xv_0 <| xcm xv_1 <| xcm xv_2 <| xcm xv_3 <| xcm xv_4 <| xcm xv_5 <| xcm xv_6 <| xcm xv_7 <| xcm xv_8 <| xcm xv_9 <| xcm xv_10 <| xcm xv_11 <| xcm xv_12 <| xcm xv_13 <| xcm xv_14 <| xcm xv_15 <| xcm xv_16 <| xcm xv_17 <| xcm xv_18 <| xcm xv_19 <| xcm xv_20 <| xcm xv_21 <| xcm xv_22 <| xcm xv_23 <| xcm xv_24 <| xcm xv_25 <| xcm xv_26 <| xcm xv_27 <| xcm xv_28 <| xcm xv_29 <| xcm xv_30 <| xcm xv_31 <| xcm xv_32 <| xcm xv_33 <| xcm xv_34 <| xcm xv_35 <| xcm xv_36 <| xcm xv_37 <| xcm xv_38 <| xcm xv_39 <| xcm xv_40 <| xcm xv_41 <| xcm xv_42 <| xcm xv_43 <| xcm xv_44 <| xcm xv_45 <| xcm xv_46 <| xcm xv_47 <| xcm xv_48 <| xcm xv_49 <| xcm xv_50 <| xcm xv_51 <| xcm xv_52 <| xcm xv_53 <| xcm xv_54 <| xcm xv_55 <| xcm xv_56 <| xcm xv_57 <| xcm xv_58 <| xcm xv_59 <| xcm xv_60 <| xcm xv_61 <| xcm xv_62 <| xcm xv_63 <| xcm xv_64 <| xcm xv_65 <| xcm xv_66 <| xcm xv_67 <| xcm xv_68 <| xcm xv_69 <| xcm xv_70 <| xcm xv_71 <| xcm xv_72 <| xcm xv_73 <| xcm xv_74 <| xcm xv_75 <| xcm xv_76 <| xcm xv_77 <| xcm xv_78 <| xcm xv_79 <| xcm xv_80 <| xcm xv_81 <| xcm xv_82 <| xcm xv_83 <| xcm xv_84 <| xcm xv_85 <| xcm xv_86 <| xcm xv_87 <| xcm xv_88 <| xcm xv_89 <| xcm xv_90 <| xcm xv_91 <| xcm xv_92 <| xcm xv_93 <| xcm xv_94 <| xcm xv_95 <| xcm xv_96 <| xcm xv_97 <| xcm xv_98 <| xcm xv_99 <| xcm xv_100 <| xcm xv_101 <| xcm xv_102 <| xcm xv_103 <| xcm xv_104 <| xcm xv_105 <| xcm xv_106 <| xcm xv_107 <| xcm xv_108 <| xcm xv_109 <| xcm xv_110 <| xcm xv_111 <| xcm xv_112 <| xcm xv_113 <| xcm xv_114 <| xcm xv_115 <| xcm xv_116 <| xcm xv_117 <| xcm xv_118 <| xcm xv_119 <| xcm xv_120 <| xcm xv_121 <| xcm xv_122 <| xcm xv_123 <| xcm xv_124 <| xcm xv_125 <| xcm xv_126 <| xcm xv_127 <| xcm xv_128 <| xcm xv_129 <| xcm xv_130 <| xcm xv_131 <| xcm xv_132 <| xcm xv_133 <| xcm xv_134 <| xcm xv_135 <| xcm xv_136 <| xcm xv_137 <| xcm xv_138 <| xcm xv_139 <| xcm xv_140 <| xcm xv_141 <| xcm xv_142 <| xcm xv_143 <| xcm xv_144 <| xcm xv_145 <| xcm xv_146 <| xcm xv_147 <| xcm xv_148 <| xcm xv_149 <| xcm xv_150 <| xcm xv_151 <| xcm xv_152 <| xcm xv_153 <| xcm xv_154 <| xcm xv_155 <| xcm xv_156 <| xcm xv_157 <| xcm xv_158 <| xcm xv_159 <| xcm xv_160 <| xcm xv_161 <| xcm xv_162 <| xcm xv_163 <| xcm xv_164 <| xcm xv_165 <| xcm xv_166 <| xcm xv_167 <| xcm xv_168 <| xcm xv_169 <| xcm xv_170 <| xcm xv_171 <| xcm xv_172 <| xcm xv_173 <| xcm xv_174 <| xcm xv_175 <| xcm xv_176 <| xcm xv_177 <| xcm xv_178 <| xcm xv_179 <| xcm xv_180 <| xcm xv_181 <| xcm xv_182 <| xcm xv_183 <| xcm xv_184 <| xcm xv_185 <| xcm xv_186 <| xcm xv_187 <| xcm xv_188 <| xcm xv_189 <| xcm xv_190 <| xcm xv_191 <| xcm xv_192 <| xcm xv_193 <| xcm xv_194 <| xcm xv_195 <| xcm xv_196 <| xcm xv_197 <| xcm xv_198 <| xcm xv_199 <| xcm xv_200 <| xcm xv_201 <| xcm xv_202 <| xcm xv_203 <| xcm xv_204 <| xcm xv_205 <| xcm xv_206 <| xcm xv_207 <| xcm xv_208 <| xcm xv_209 <| xcm xv_210 <| xcm xv_211 <| trivial)
theorem eT_0 : xT 0 = xw_0.map (fun q => q.2.2) := rfl
theorem eT_1 : xT 1 = xw_1.map (fun q => q.2.2) := rfl
theorem eT_2 : xT 2 = xw_2.map (fun q => q.2.2) := rfl
theorem eT_3 : xT 3 = xw_3.map (fun q => q.2.2) := rfl
theorem eT_4 : xT 4 = xw_4.map (fun q => q.2.2) := rfl
theorem eT_5 : xT 5 = xw_5.map (fun q => q.2.2) := rfl
theorem eT_6 : xT 6 = xw_6.map (fun q => q.2.2) := rfl
theorem eT_7 : xT 7 = xw_7.map (fun q => q.2.2) := rfl
theorem eT_8 : xT 8 = xw_8.map (fun q => q.2.2) := rfl
theorem eT_9 : xT 9 = xw_9.map (fun q => q.2.2) := rfl
theorem eT_10 : xT 10 = xw_10.map (fun q => q.2.2) := rfl
theorem eT_11 : xT 11 = xw_11.map (fun q => q.2.2) := rfl
theorem eT_12 : xT 12 = xw_12.map (fun q => q.2.2) := rfl
theorem eT_13 : xT 13 = xw_13.map (fun q => q.2.2) := rfl
theorem eT_14 : xT 14 = xw_14.map (fun q => q.2.2) := rfl
theorem eT_15 : xT 15 = xw_15.map (fun q => q.2.2) := rfl
theorem eT_16 : xT 16 = xw_16.map (fun q => q.2.2) := rfl
theorem eT_17 : xT 17 = xw_17.map (fun q => q.2.2) := rfl
theorem eT_18 : xT 18 = xw_18.map (fun q => q.2.2) := rfl
theorem eT_19 : xT 19 = xw_19.map (fun q => q.2.2) := rfl
theorem eT_20 : xT 20 = xw_20.map (fun q => q.2.2) := rfl
theorem eT_21 : xT 21 = xw_21.map (fun q => q.2.2) := rfl
theorem eT_22 : xT 22 = xw_22.map (fun q => q.2.2) := rfl
theorem eT_23 : xT 23 = xw_23.map (fun q => q.2.2) := rfl
theorem eT_24 : xT 24 = xw_24.map (fun q => q.2.2) := rfl
theorem eT_25 : xT 25 = xw_25.map (fun q => q.2.2) := rfl
theorem eT_26 : xT 26 = xw_26.map (fun q => q.2.2) := rfl
theorem eT_27 : xT 27 = xw_27.map (fun q => q.2.2) := rfl
theorem eT_28 : xT 28 = xw_28.map (fun q => q.2.2) := rfl
theorem eT_29 : xT 29 = xw_29.map (fun q => q.2.2) := rfl
theorem eT_30 : xT 30 = xw_30.map (fun q => q.2.2) := rfl
theorem eT_31 : xT 31 = xw_31.map (fun q => q.2.2) := rfl
theorem eT_32 : xT 32 = xw_32.map (fun q => q.2.2) := rfl
theorem eT_33 : xT 33 = xw_33.map (fun q => q.2.2) := rfl
theorem eT_34 : xT 34 = xw_34.map (fun q => q.2.2) := rfl
theorem eT_35 : xT 35 = xw_35.map (fun q => q.2.2) := rfl
theorem eT_36 : xT 36 = xw_36.map (fun q => q.2.2) := rfl
theorem eT_37 : xT 37 = xw_37.map (fun q => q.2.2) := rfl
theorem eT_38 : xT 38 = xw_38.map (fun q => q.2.2) := rfl
theorem eT_39 : xT 39 = xw_39.map (fun q => q.2.2) := rfl
theorem eT_40 : xT 40 = xw_40.map (fun q => q.2.2) := rfl
theorem eT_41 : xT 41 = xw_41.map (fun q => q.2.2) := rfl
theorem eT_42 : xT 42 = xw_42.map (fun q => q.2.2) := rfl
theorem eT_43 : xT 43 = xw_43.map (fun q => q.2.2) := rfl
theorem eT_44 : xT 44 = xw_44.map (fun q => q.2.2) := rfl
theorem eT_45 : xT 45 = xw_45.map (fun q => q.2.2) := rfl
theorem eT_46 : xT 46 = xw_46.map (fun q => q.2.2) := rfl
theorem eT_47 : xT 47 = xw_47.map (fun q => q.2.2) := rfl
theorem eT_48 : xT 48 = xw_48.map (fun q => q.2.2) := rfl
theorem eT_49 : xT 49 = xw_49.map (fun q => q.2.2) := rfl
theorem eT_50 : xT 50 = xw_50.map (fun q => q.2.2) := rfl
theorem eT_51 : xT 51 = xw_51.map (fun q => q.2.2) := rfl
theorem eT_52 : xT 52 = xw_52.map (fun q => q.2.2) := rfl
theorem eT_53 : xT 53 = xw_53.map (fun q => q.2.2) := rfl
theorem eT_54 : xT 54 = xw_54.map (fun q => q.2.2) := rfl
theorem eT_55 : xT 55 = xw_55.map (fun q => q.2.2) := rfl
theorem eT_56 : xT 56 = xw_56.map (fun q => q.2.2) := rfl
theorem eT_57 : xT 57 = xw_57.map (fun q => q.2.2) := rfl
theorem eT_58 : xT 58 = xw_58.map (fun q => q.2.2) := rfl
theorem eT_59 : xT 59 = xw_59.map (fun q => q.2.2) := rfl
theorem eT_60 : xT 60 = xw_60.map (fun q => q.2.2) := rfl
theorem eT_61 : xT 61 = xw_61.map (fun q => q.2.2) := rfl
theorem eT_62 : xT 62 = xw_62.map (fun q => q.2.2) := rfl
theorem eT_63 : xT 63 = xw_63.map (fun q => q.2.2) := rfl
theorem eT_64 : xT 64 = xw_64.map (fun q => q.2.2) := rfl
theorem eT_65 : xT 65 = xw_65.map (fun q => q.2.2) := rfl
theorem eT_66 : xT 66 = xw_66.map (fun q => q.2.2) := rfl
theorem eT_67 : xT 67 = xw_67.map (fun q => q.2.2) := rfl
theorem eT_68 : xT 68 = xw_68.map (fun q => q.2.2) := rfl
theorem eT_69 : xT 69 = xw_69.map (fun q => q.2.2) := rfl
theorem eT_70 : xT 70 = xw_70.map (fun q => q.2.2) := rfl
theorem eT_71 : xT 71 = xw_71.map (fun q => q.2.2) := rfl
theorem eT_72 : xT 72 = xw_72.map (fun q => q.2.2) := rfl
theorem eT_73 : xT 73 = xw_73.map (fun q => q.2.2) := rfl
theorem eT_74 : xT 74 = xw_74.map (fun q => q.2.2) := rfl
theorem eT_75 : xT 75 = xw_75.map (fun q => q.2.2) := rfl
theorem eT_76 : xT 76 = xw_76.map (fun q => q.2.2) := rfl
theorem eT_77 : xT 77 = xw_77.map (fun q => q.2.2) := rfl
theorem eT_78 : xT 78 = xw_78.map (fun q => q.2.2) := rfl
theorem eT_79 : xT 79 = xw_79.map (fun q => q.2.2) := rfl
theorem eT_80 : xT 80 = xw_80.map (fun q => q.2.2) := rfl
theorem eT_81 : xT 81 = xw_81.map (fun q => q.2.2) := rfl
theorem eT_82 : xT 82 = xw_82.map (fun q => q.2.2) := rfl
theorem eT_83 : xT 83 = xw_83.map (fun q => q.2.2) := rfl
theorem eT_84 : xT 84 = xw_84.map (fun q => q.2.2) := rfl
theorem eT_85 : xT 85 = xw_85.map (fun q => q.2.2) := rfl
theorem eT_86 : xT 86 = xw_86.map (fun q => q.2.2) := rfl
theorem eT_87 : xT 87 = xw_87.map (fun q => q.2.2) := rfl
theorem eT_88 : xT 88 = xw_88.map (fun q => q.2.2) := rfl
theorem eT_89 : xT 89 = xw_89.map (fun q => q.2.2) := rfl
theorem eT_90 : xT 90 = xw_90.map (fun q => q.2.2) := rfl
theorem eT_91 : xT 91 = xw_91.map (fun q => q.2.2) := rfl
theorem eT_92 : xT 92 = xw_92.map (fun q => q.2.2) := rfl
theorem eT_93 : xT 93 = xw_93.map (fun q => q.2.2) := rfl
theorem eT_94 : xT 94 = xw_94.map (fun q => q.2.2) := rfl
theorem eT_95 : xT 95 = xw_95.map (fun q => q.2.2) := rfl
theorem eT_96 : xT 96 = xw_96.map (fun q => q.2.2) := rfl
theorem eT_97 : xT 97 = xw_97.map (fun q => q.2.2) := rfl
theorem eT_98 : xT 98 = xw_98.map (fun q => q.2.2) := rfl
theorem eT_99 : xT 99 = xw_99.map (fun q => q.2.2) := rfl
theorem eT_100 : xT 100 = xw_100.map (fun q => q.2.2) := rfl
theorem eT_101 : xT 101 = xw_101.map (fun q => q.2.2) := rfl
theorem eT_102 : xT 102 = xw_102.map (fun q => q.2.2) := rfl
theorem eT_103 : xT 103 = xw_103.map (fun q => q.2.2) := rfl
theorem eT_104 : xT 104 = xw_104.map (fun q => q.2.2) := rfl
theorem eT_105 : xT 105 = xw_105.map (fun q => q.2.2) := rfl
theorem eT_106 : xT 106 = xw_106.map (fun q => q.2.2) := rfl
theorem eT_107 : xT 107 = xw_107.map (fun q => q.2.2) := rfl
theorem eT_108 : xT 108 = xw_108.map (fun q => q.2.2) := rfl
theorem eT_109 : xT 109 = xw_109.map (fun q => q.2.2) := rfl
theorem eT_110 : xT 110 = xw_110.map (fun q => q.2.2) := rfl
theorem eT_111 : xT 111 = xw_111.map (fun q => q.2.2) := rfl
theorem eT_112 : xT 112 = xw_112.map (fun q => q.2.2) := rfl
theorem eT_113 : xT 113 = xw_113.map (fun q => q.2.2) := rfl
theorem eT_114 : xT 114 = xw_114.map (fun q => q.2.2) := rfl
theorem eT_115 : xT 115 = xw_115.map (fun q => q.2.2) := rfl
theorem eT_116 : xT 116 = xw_116.map (fun q => q.2.2) := rfl
theorem eT_117 : xT 117 = xw_117.map (fun q => q.2.2) := rfl
theorem eT_118 : xT 118 = xw_118.map (fun q => q.2.2) := rfl
theorem eT_119 : xT 119 = xw_119.map (fun q => q.2.2) := rfl
theorem eT_120 : xT 120 = xw_120.map (fun q => q.2.2) := rfl
theorem eT_121 : xT 121 = xw_121.map (fun q => q.2.2) := rfl
theorem eT_122 : xT 122 = xw_122.map (fun q => q.2.2) := rfl
theorem eT_123 : xT 123 = xw_123.map (fun q => q.2.2) := rfl
theorem eT_124 : xT 124 = xw_124.map (fun q => q.2.2) := rfl
theorem eT_125 : xT 125 = xw_125.map (fun q => q.2.2) := rfl
theorem eT_126 : xT 126 = xw_126.map (fun q => q.2.2) := rfl
theorem eT_127 : xT 127 = xw_127.map (fun q => q.2.2) := rfl
theorem eT_128 : xT 128 = xw_128.map (fun q => q.2.2) := rfl
theorem eT_129 : xT 129 = xw_129.map (fun q => q.2.2) := rfl
theorem eT_130 : xT 130 = xw_130.map (fun q => q.2.2) := rfl
theorem eT_131 : xT 131 = xw_131.map (fun q => q.2.2) := rfl
theorem eT_132 : xT 132 = xw_132.map (fun q => q.2.2) := rfl
theorem eT_133 : xT 133 = xw_133.map (fun q => q.2.2) := rfl
theorem eT_134 : xT 134 = xw_134.map (fun q => q.2.2) := rfl
theorem eT_135 : xT 135 = xw_135.map (fun q => q.2.2) := rfl
theorem eT_136 : xT 136 = xw_136.map (fun q => q.2.2) := rfl
theorem eT_137 : xT 137 = xw_137.map (fun q => q.2.2) := rfl
theorem eT_138 : xT 138 = xw_138.map (fun q => q.2.2) := rfl
theorem eT_139 : xT 139 = xw_139.map (fun q => q.2.2) := rfl
theorem eT_140 : xT 140 = xw_140.map (fun q => q.2.2) := rfl
theorem eT_141 : xT 141 = xw_141.map (fun q => q.2.2) := rfl
theorem eT_142 : xT 142 = xw_142.map (fun q => q.2.2) := rfl
theorem eT_143 : xT 143 = xw_143.map (fun q => q.2.2) := rfl
theorem eT_144 : xT 144 = xw_144.map (fun q => q.2.2) := rfl
theorem eT_145 : xT 145 = xw_145.map (fun q => q.2.2) := rfl
theorem eT_146 : xT 146 = xw_146.map (fun q => q.2.2) := rfl
theorem eT_147 : xT 147 = xw_147.map (fun q => q.2.2) := rfl
theorem eT_148 : xT 148 = xw_148.map (fun q => q.2.2) := rfl
theorem eT_149 : xT 149 = xw_149.map (fun q => q.2.2) := rfl
theorem eT_150 : xT 150 = xw_150.map (fun q => q.2.2) := rfl
theorem eT_151 : xT 151 = xw_151.map (fun q => q.2.2) := rfl
theorem eT_152 : xT 152 = xw_152.map (fun q => q.2.2) := rfl
theorem eT_153 : xT 153 = xw_153.map (fun q => q.2.2) := rfl
theorem eT_154 : xT 154 = xw_154.map (fun q => q.2.2) := rfl
theorem eT_155 : xT 155 = xw_155.map (fun q => q.2.2) := rfl
theorem eT_156 : xT 156 = xw_156.map (fun q => q.2.2) := rfl
theorem eT_157 : xT 157 = xw_157.map (fun q => q.2.2) := rfl
theorem eT_158 : xT 158 = xw_158.map (fun q => q.2.2) := rfl
theorem eT_159 : xT 159 = xw_159.map (fun q => q.2.2) := rfl
theorem eT_160 : xT 160 = xw_160.map (fun q => q.2.2) := rfl
theorem eT_161 : xT 161 = xw_161.map (fun q => q.2.2) := rfl
theorem eT_162 : xT 162 = xw_162.map (fun q => q.2.2) := rfl
theorem eT_163 : xT 163 = xw_163.map (fun q => q.2.2) := rfl
theorem eT_164 : xT 164 = xw_164.map (fun q => q.2.2) := rfl
theorem eT_165 : xT 165 = xw_165.map (fun q => q.2.2) := rfl
theorem eT_166 : xT 166 = xw_166.map (fun q => q.2.2) := rfl
theorem eT_167 : xT 167 = xw_167.map (fun q => q.2.2) := rfl
theorem eT_168 : xT 168 = xw_168.map (fun q => q.2.2) := rfl
theorem eT_169 : xT 169 = xw_169.map (fun q => q.2.2) := rfl
theorem eT_170 : xT 170 = xw_170.map (fun q => q.2.2) := rfl
theorem eT_171 : xT 171 = xw_171.map (fun q => q.2.2) := rfl
theorem eT_172 : xT 172 = xw_172.map (fun q => q.2.2) := rfl
theorem eT_173 : xT 173 = xw_173.map (fun q => q.2.2) := rfl
theorem eT_174 : xT 174 = xw_174.map (fun q => q.2.2) := rfl
theorem eT_175 : xT 175 = xw_175.map (fun q => q.2.2) := rfl
theorem eT_176 : xT 176 = xw_176.map (fun q => q.2.2) := rfl
theorem eT_177 : xT 177 = xw_177.map (fun q => q.2.2) := rfl
theorem eT_178 : xT 178 = xw_178.map (fun q => q.2.2) := rfl
theorem eT_179 : xT 179 = xw_179.map (fun q => q.2.2) := rfl
theorem eT_180 : xT 180 = xw_180.map (fun q => q.2.2) := rfl
theorem eT_181 : xT 181 = xw_181.map (fun q => q.2.2) := rfl
theorem eT_182 : xT 182 = xw_182.map (fun q => q.2.2) := rfl
theorem eT_183 : xT 183 = xw_183.map (fun q => q.2.2) := rfl
theorem eT_184 : xT 184 = xw_184.map (fun q => q.2.2) := rfl
theorem eT_185 : xT 185 = xw_185.map (fun q => q.2.2) := rfl
theorem eT_186 : xT 186 = xw_186.map (fun q => q.2.2) := rfl
theorem eT_187 : xT 187 = xw_187.map (fun q => q.2.2) := rfl
theorem eT_188 : xT 188 = xw_188.map (fun q => q.2.2) := rfl
theorem eT_189 : xT 189 = xw_189.map (fun q => q.2.2) := rfl
theorem eT_190 : xT 190 = xw_190.map (fun q => q.2.2) := rfl
theorem eT_191 : xT 191 = xw_191.map (fun q => q.2.2) := rfl
theorem eT_192 : xT 192 = xw_192.map (fun q => q.2.2) := rfl
theorem eT_193 : xT 193 = xw_193.map (fun q => q.2.2) := rfl
theorem eT_194 : xT 194 = xw_194.map (fun q => q.2.2) := rfl
theorem eT_195 : xT 195 = xw_195.map (fun q => q.2.2) := rfl
theorem eT_196 : xT 196 = xw_196.map (fun q => q.2.2) := rfl
theorem eT_197 : xT 197 = xw_197.map (fun q => q.2.2) := rfl
theorem eT_198 : xT 198 = xw_198.map (fun q => q.2.2) := rfl
theorem eT_199 : xT 199 = xw_199.map (fun q => q.2.2) := rfl
theorem eT_200 : xT 200 = xw_200.map (fun q => q.2.2) := rfl
theorem eT_201 : xT 201 = xw_201.map (fun q => q.2.2) := rfl
theorem eT_202 : xT 202 = xw_202.map (fun q => q.2.2) := rfl
theorem eT_203 : xT 203 = xw_203.map (fun q => q.2.2) := rfl
theorem eT_204 : xT 204 = xw_204.map (fun q => q.2.2) := rfl
theorem eT_205 : xT 205 = xw_205.map (fun q => q.2.2) := rfl
theorem eT_206 : xT 206 = xw_206.map (fun q => q.2.2) := rfl
theorem eT_207 : xT 207 = xw_207.map (fun q => q.2.2) := rfl
theorem eT_208 : xT 208 = xw_208.map (fun q => q.2.2) := rfl
theorem eT_209 : xT 209 = xw_209.map (fun q => q.2.2) := rfl
theorem eT_210 : xT 210 = xw_210.map (fun q => q.2.2) := rfl
theorem eT_211 : xT 211 = xw_211.map (fun q => q.2.2) := rfl
theorem eL_0 : xLn 0 = 5 := rfl
theorem eL_1 : xLn 1 = 2 := rfl
theorem eL_2 : xLn 2 = 4 := rfl
theorem eL_3 : xLn 3 = 5 := rfl
theorem eL_4 : xLn 4 = 4 := rfl
theorem eL_5 : xLn 5 = 3 := rfl
theorem eL_6 : xLn 6 = 4 := rfl
theorem eL_7 : xLn 7 = 4 := rfl
theorem eL_8 : xLn 8 = 2 := rfl
theorem eL_9 : xLn 9 = 2 := rfl
theorem eL_10 : xLn 10 = 5 := rfl
theorem eL_11 : xLn 11 = 2 := rfl
theorem eL_12 : xLn 12 = 3 := rfl
theorem eL_13 : xLn 13 = 4 := rfl
theorem eL_14 : xLn 14 = 5 := rfl
theorem eL_15 : xLn 15 = 5 := rfl
theorem eL_16 : xLn 16 = 8 := rfl
theorem eL_17 : xLn 17 = 2 := rfl
theorem eL_18 : xLn 18 = 2 := rfl
theorem eL_19 : xLn 19 = 3 := rfl
theorem eL_20 : xLn 20 = 3 := rfl
theorem eL_21 : xLn 21 = 3 := rfl
theorem eL_22 : xLn 22 = 4 := rfl
theorem eL_23 : xLn 23 = 4 := rfl
theorem eL_24 : xLn 24 = 7 := rfl
theorem eL_25 : xLn 25 = 2 := rfl
theorem eL_26 : xLn 26 = 2 := rfl
theorem eL_27 : xLn 27 = 2 := rfl
theorem eL_28 : xLn 28 = 3 := rfl
theorem eL_29 : xLn 29 = 6 := rfl
theorem eL_30 : xLn 30 = 7 := rfl
theorem eL_31 : xLn 31 = 5 := rfl
theorem eL_32 : xLn 32 = 2 := rfl
theorem eL_33 : xLn 33 = 1 := rfl
theorem eL_34 : xLn 34 = 2 := rfl
theorem eL_35 : xLn 35 = 2 := rfl
theorem eL_36 : xLn 36 = 1 := rfl
theorem eL_37 : xLn 37 = 6 := rfl
theorem eL_38 : xLn 38 = 4 := rfl
theorem eL_39 : xLn 39 = 2 := rfl
theorem eL_40 : xLn 40 = 13 := rfl
theorem eL_41 : xLn 41 = 2 := rfl
theorem eL_42 : xLn 42 = 4 := rfl
theorem eL_43 : xLn 43 = 4 := rfl
theorem eL_44 : xLn 44 = 4 := rfl
theorem eL_45 : xLn 45 = 2 := rfl
theorem eL_46 : xLn 46 = 1 := rfl
theorem eL_47 : xLn 47 = 4 := rfl
theorem eL_48 : xLn 48 = 2 := rfl
theorem eL_49 : xLn 49 = 4 := rfl
theorem eL_50 : xLn 50 = 5 := rfl
theorem eL_51 : xLn 51 = 4 := rfl
theorem eL_52 : xLn 52 = 7 := rfl
theorem eL_53 : xLn 53 = 2 := rfl
theorem eL_54 : xLn 54 = 2 := rfl
theorem eL_55 : xLn 55 = 2 := rfl
theorem eL_56 : xLn 56 = 3 := rfl
theorem eL_57 : xLn 57 = 4 := rfl
theorem eL_58 : xLn 58 = 2 := rfl
theorem eL_59 : xLn 59 = 4 := rfl
theorem eL_60 : xLn 60 = 1 := rfl
theorem eL_61 : xLn 61 = 2 := rfl
theorem eL_62 : xLn 62 = 5 := rfl
theorem eL_63 : xLn 63 = 3 := rfl
theorem eL_64 : xLn 64 = 3 := rfl
theorem eL_65 : xLn 65 = 4 := rfl
theorem eL_66 : xLn 66 = 4 := rfl
theorem eL_67 : xLn 67 = 2 := rfl
theorem eL_68 : xLn 68 = 2 := rfl
theorem eL_69 : xLn 69 = 4 := rfl
theorem eL_70 : xLn 70 = 3 := rfl
theorem eL_71 : xLn 71 = 3 := rfl
theorem eL_72 : xLn 72 = 2 := rfl
theorem eL_73 : xLn 73 = 2 := rfl
theorem eL_74 : xLn 74 = 2 := rfl
theorem eL_75 : xLn 75 = 4 := rfl
theorem eL_76 : xLn 76 = 2 := rfl
theorem eL_77 : xLn 77 = 2 := rfl
theorem eL_78 : xLn 78 = 2 := rfl
theorem eL_79 : xLn 79 = 3 := rfl
theorem eL_80 : xLn 80 = 4 := rfl
theorem eL_81 : xLn 81 = 3 := rfl
theorem eL_82 : xLn 82 = 3 := rfl
theorem eL_83 : xLn 83 = 3 := rfl
theorem eL_84 : xLn 84 = 3 := rfl
theorem eL_85 : xLn 85 = 2 := rfl
theorem eL_86 : xLn 86 = 2 := rfl
theorem eL_87 : xLn 87 = 3 := rfl
theorem eL_88 : xLn 88 = 3 := rfl
theorem eL_89 : xLn 89 = 3 := rfl
theorem eL_90 : xLn 90 = 3 := rfl
theorem eL_91 : xLn 91 = 4 := rfl
theorem eL_92 : xLn 92 = 3 := rfl
theorem eL_93 : xLn 93 = 2 := rfl
theorem eL_94 : xLn 94 = 2 := rfl
theorem eL_95 : xLn 95 = 3 := rfl
theorem eL_96 : xLn 96 = 1 := rfl
theorem eL_97 : xLn 97 = 3 := rfl
theorem eL_98 : xLn 98 = 4 := rfl
theorem eL_99 : xLn 99 = 2 := rfl
theorem eL_100 : xLn 100 = 1 := rfl
theorem eL_101 : xLn 101 = 4 := rfl
theorem eL_102 : xLn 102 = 1 := rfl
theorem eL_103 : xLn 103 = 2 := rfl
theorem eL_104 : xLn 104 = 5 := rfl
theorem eL_105 : xLn 105 = 7 := rfl
theorem eL_106 : xLn 106 = 3 := rfl
theorem eL_107 : xLn 107 = 3 := rfl
theorem eL_108 : xLn 108 = 3 := rfl
theorem eL_109 : xLn 109 = 3 := rfl
theorem eL_110 : xLn 110 = 2 := rfl
theorem eL_111 : xLn 111 = 1 := rfl
theorem eL_112 : xLn 112 = 2 := rfl
theorem eL_113 : xLn 113 = 2 := rfl
theorem eL_114 : xLn 114 = 3 := rfl
theorem eL_115 : xLn 115 = 6 := rfl
theorem eL_116 : xLn 116 = 2 := rfl
theorem eL_117 : xLn 117 = 2 := rfl
theorem eL_118 : xLn 118 = 2 := rfl
theorem eL_119 : xLn 119 = 2 := rfl
theorem eL_120 : xLn 120 = 3 := rfl
theorem eL_121 : xLn 121 = 2 := rfl
theorem eL_122 : xLn 122 = 2 := rfl
theorem eL_123 : xLn 123 = 3 := rfl
theorem eL_124 : xLn 124 = 3 := rfl
theorem eL_125 : xLn 125 = 3 := rfl
theorem eL_126 : xLn 126 = 5 := rfl
theorem eL_127 : xLn 127 = 3 := rfl
theorem eL_128 : xLn 128 = 4 := rfl
theorem eL_129 : xLn 129 = 8 := rfl
theorem eL_130 : xLn 130 = 2 := rfl
theorem eL_131 : xLn 131 = 1 := rfl
theorem eL_132 : xLn 132 = 2 := rfl
theorem eL_133 : xLn 133 = 4 := rfl
theorem eL_134 : xLn 134 = 2 := rfl
theorem eL_135 : xLn 135 = 3 := rfl
theorem eL_136 : xLn 136 = 2 := rfl
theorem eL_137 : xLn 137 = 3 := rfl
theorem eL_138 : xLn 138 = 3 := rfl
theorem eL_139 : xLn 139 = 4 := rfl
theorem eL_140 : xLn 140 = 4 := rfl
theorem eL_141 : xLn 141 = 5 := rfl
theorem eL_142 : xLn 142 = 5 := rfl
theorem eL_143 : xLn 143 = 3 := rfl
theorem eL_144 : xLn 144 = 4 := rfl
theorem eL_145 : xLn 145 = 4 := rfl
theorem eL_146 : xLn 146 = 3 := rfl
theorem eL_147 : xLn 147 = 4 := rfl
theorem eL_148 : xLn 148 = 4 := rfl
theorem eL_149 : xLn 149 = 4 := rfl
theorem eL_150 : xLn 150 = 3 := rfl
theorem eL_151 : xLn 151 = 4 := rfl
theorem eL_152 : xLn 152 = 4 := rfl
theorem eL_153 : xLn 153 = 2 := rfl
theorem eL_154 : xLn 154 = 2 := rfl
theorem eL_155 : xLn 155 = 3 := rfl
theorem eL_156 : xLn 156 = 3 := rfl
theorem eL_157 : xLn 157 = 4 := rfl
theorem eL_158 : xLn 158 = 2 := rfl
theorem eL_159 : xLn 159 = 2 := rfl
theorem eL_160 : xLn 160 = 2 := rfl
theorem eL_161 : xLn 161 = 3 := rfl
theorem eL_162 : xLn 162 = 5 := rfl
theorem eL_163 : xLn 163 = 3 := rfl
theorem eL_164 : xLn 164 = 4 := rfl
theorem eL_165 : xLn 165 = 4 := rfl
theorem eL_166 : xLn 166 = 4 := rfl
theorem eL_167 : xLn 167 = 3 := rfl
theorem eL_168 : xLn 168 = 3 := rfl
theorem eL_169 : xLn 169 = 3 := rfl
theorem eL_170 : xLn 170 = 4 := rfl
theorem eL_171 : xLn 171 = 5 := rfl
theorem eL_172 : xLn 172 = 5 := rfl
theorem eL_173 : xLn 173 = 3 := rfl
theorem eL_174 : xLn 174 = 3 := rfl
theorem eL_175 : xLn 175 = 3 := rfl
theorem eL_176 : xLn 176 = 2 := rfl
theorem eL_177 : xLn 177 = 5 := rfl
theorem eL_178 : xLn 178 = 4 := rfl
theorem eL_179 : xLn 179 = 2 := rfl
theorem eL_180 : xLn 180 = 4 := rfl
theorem eL_181 : xLn 181 = 2 := rfl
theorem eL_182 : xLn 182 = 2 := rfl
theorem eL_183 : xLn 183 = 3 := rfl
theorem eL_184 : xLn 184 = 4 := rfl
theorem eL_185 : xLn 185 = 3 := rfl
theorem eL_186 : xLn 186 = 3 := rfl
theorem eL_187 : xLn 187 = 3 := rfl
theorem eL_188 : xLn 188 = 10 := rfl
theorem eL_189 : xLn 189 = 4 := rfl
theorem eL_190 : xLn 190 = 6 := rfl
theorem eL_191 : xLn 191 = 4 := rfl
theorem eL_192 : xLn 192 = 3 := rfl
theorem eL_193 : xLn 193 = 4 := rfl
theorem eL_194 : xLn 194 = 7 := rfl
theorem eL_195 : xLn 195 = 3 := rfl
theorem eL_196 : xLn 196 = 2 := rfl
theorem eL_197 : xLn 197 = 2 := rfl
theorem eL_198 : xLn 198 = 1 := rfl
theorem eL_199 : xLn 199 = 2 := rfl
theorem eL_200 : xLn 200 = 5 := rfl
theorem eL_201 : xLn 201 = 1 := rfl
theorem eL_202 : xLn 202 = 4 := rfl
theorem eL_203 : xLn 203 = 4 := rfl
theorem eL_204 : xLn 204 = 5 := rfl
theorem eL_205 : xLn 205 = 4 := rfl
theorem eL_206 : xLn 206 = 3 := rfl
theorem eL_207 : xLn 207 = 2 := rfl
theorem eL_208 : xLn 208 = 2 := rfl
theorem eL_209 : xLn 209 = 2 := rfl
theorem eL_210 : xLn 210 = 5 := rfl
theorem eL_211 : xLn 211 = 1 := rfl
