set_option maxRecDepth 20000 in
theorem in_wsL_law0_r32 : ∀ w ∈ wsL_law0_r32, w ∈ lw_tbl := (zcm (ztm1 149 (by first | rfl | decide +kernel)) (zcm (ztm4 30 (by first | rfl | decide +kernel)) (zcm (ztm4 31 (by first | rfl | decide +kernel)) (zcm (ztm4 32 (by first | rfl | decide +kernel)) (zcm (ztm4 33 (by first | rfl | decide +kernel)) (zcm (ztm1 121 (by first | rfl | decide +kernel)) (zcm (ztm2 6 (by first | rfl | decide +kernel)) (zcm (ztm4 34 (by first | rfl | decide +kernel)) (zcm (ztm4 35 (by first | rfl | decide +kernel)) (zcm (ztm4 36 (by first | rfl | decide +kernel)) (zcm (ztm4 37 (by first | rfl | decide +kernel)) (zcm (ztm4 38 (by first | rfl | decide +kernel)) (zcm (ztm4 39 (by first | rfl | decide +kernel)) (zcm (ztm4 40 (by first | rfl | decide +kernel)) (zcm (ztm4 41 (by first | rfl | decide +kernel)) (zcm (ztm1 110 (by first | rfl | decide +kernel)) (zcm (ztm2 12 (by first | rfl | decide +kernel)) (zcm (ztm1 138 (by first | rfl | decide +kernel)) (zcm (ztm2 9 (by first | rfl | decide +kernel)) (zcm (ztm2 21 (by first | rfl | decide +kernel)) (zcm (ztm4 42 (by first | rfl | decide +kernel)) (zcm (ztm4 43 (by first | rfl | decide +kernel)) (zcm (ztm4 44 (by first | rfl | decide +kernel)) (zcm (ztm4 45 (by first | rfl | decide +kernel)) znm))))))))))))))))))))))))
set_option maxRecDepth 20000 in
theorem in_wsL_law0_r33 : ∀ w ∈ wsL_law0_r33, w ∈ lw_tbl := (zcm (ztm4 46 (by first | rfl | decide +kernel)) (zcm (ztm4 47 (by first | rfl | decide +kernel)) (zcm (ztm4 48 (by first | rfl | decide +kernel)) (zcm (ztm4 49 (by first | rfl | decide +kernel)) (zcm (ztm4 50 (by first | rfl | decide +kernel)) (zcm (ztm4 51 (by first | rfl | decide +kernel)) (zcm (ztm7 57 (by first | rfl | decide +kernel)) (zcm (ztm7 58 (by first | rfl | decide +kernel)) (zcm (ztm7 59 (by first | rfl | decide +kernel)) (zcm (ztm7 60 (by first | rfl | decide +kernel)) (zcm (ztm7 61 (by first | rfl | decide +kernel)) (zcm (ztm7 63 (by first | rfl | decide +kernel)) (zcm (zpm 60 (by first | rfl | decide +kernel)) (zcm (ztm7 64 (by first | rfl | decide +kernel)) (zcm (ztm7 65 (by first | rfl | decide +kernel)) (zcm (ztm7 67 (by first | rfl | decide +kernel)) (zcm (zpm 61 (by first | rfl | decide +kernel)) (zcm (ztm7 68 (by first | rfl | decide +kernel)) (zcm (ztm7 69 (by first | rfl | decide +kernel)) (zcm (ztm7 71 (by first | rfl | decide +kernel)) (zcm (zpm 62 (by first | rfl | decide +kernel)) (zcm (ztm7 72 (by first | rfl | decide +kernel)) (zcm (ztm7 73 (by first | rfl | decide +kernel)) (zcm (ztm7 75 (by first | rfl | decide +kernel)) znm))))))))))))))))))))))))
set_option maxRecDepth 20000 in
theorem in_wsL_law0_r34 : ∀ w ∈ wsL_law0_r34, w ∈ lw_tbl := (zcm (zpm 63 (by first | rfl | decide +kernel)) (zcm (ztm7 76 (by first | rfl | decide +kernel)) (zcm (ztm7 77 (by first | rfl | decide +kernel)) (zcm (ztm7 79 (by first | rfl | decide +kernel)) (zcm (zpm 64 (by first | rfl | decide +kernel)) (zcm (ztm7 80 (by first | rfl | decide +kernel)) (zcm (ztm6 3 (by first | rfl | decide +kernel)) (zcm (ztm7 81 (by first | rfl | decide +kernel)) (zcm (ztm7 83 (by first | rfl | decide +kernel)) (zcm (zpm 65 (by first | rfl | decide +kernel)) (zcm (ztm7 84 (by first | rfl | decide +kernel)) (zcm (ztm7 85 (by first | rfl | decide +kernel)) (zcm (ztm7 87 (by first | rfl | decide +kernel)) (zcm (zpm 66 (by first | rfl | decide +kernel)) (zcm (ztm7 88 (by first | rfl | decide +kernel)) (zcm (ztm7 89 (by first | rfl | decide +kernel)) (zcm (ztm7 91 (by first | rfl | decide +kernel)) (zcm (zpm 67 (by first | rfl | decide +kernel)) (zcm (ztm7 92 (by first | rfl | decide +kernel)) (zcm (ztm7 93 (by first | rfl | decide +kernel)) (zcm (ztm7 95 (by first | rfl | decide +kernel)) (zcm (zpm 68 (by first | rfl | decide +kernel)) (zcm (ztm7 96 (by first | rfl | decide +kernel)) (zcm (ztm7 97 (by first | rfl | decide +kernel)) znm))))))))))))))))))))))))
set_option maxRecDepth 20000 in
theorem in_wsL_law0_r35 : ∀ w ∈ wsL_law0_r35, w ∈ lw_tbl := (zcm (ztm7 99 (by first | rfl | decide +kernel)) (zcm (zpm 69 (by first | rfl | decide +kernel)) (zcm (ztm7 100 (by first | rfl | decide +kernel)) (zcm (ztm4 64 (by first | rfl | decide +kernel)) (zcm (ztm4 65 (by first | rfl | decide +kernel)) (zcm (ztm4 66 (by first | rfl | decide +kernel)) (zcm (ztm4 67 (by first | rfl | decide +kernel)) (zcm (ztm4 68 (by first | rfl | decide +kernel)) (zcm (ztm4 69 (by first | rfl | decide +kernel)) (zcm (ztm4 70 (by first | rfl | decide +kernel)) (zcm (ztm4 71 (by first | rfl | decide +kernel)) (zcm (ztm1 117 (by first | rfl | decide +kernel)) (zcm (ztm4 73 (by first | rfl | decide +kernel)) (zcm (ztm4 75 (by first | rfl | decide +kernel)) (zcm (zpm 23 (by first | rfl | decide +kernel)) (zcm (ztm4 76 (by first | rfl | decide +kernel)) (zcm (ztm4 82 (by first | rfl | decide +kernel)) (zcm (ztm4 83 (by first | rfl | decide +kernel)) (zcm (ztm1 21 (by first | rfl | decide +kernel)) (zcm (ztm4 84 (by first | rfl | decide +kernel)) (zcm (ztm4 77 (by first | rfl | decide +kernel)) (zcm (ztm4 78 (by first | rfl | decide +kernel)) (zcm (ztm4 79 (by first | rfl | decide +kernel)) (zcm (ztm4 80 (by first | rfl | decide +kernel)) znm))))))))))))))))))))))))
set_option maxRecDepth 20000 in
theorem in_wsL_law0_r36 : ∀ w ∈ wsL_law0_r36, w ∈ lw_tbl := (zcm (ztm4 81 (by first | rfl | decide +kernel)) (zcm (ztm4 85 (by first | rfl | decide +kernel)) (zcm (ztm4 86 (by first | rfl | decide +kernel)) (zcm (ztm4 87 (by first | rfl | decide +kernel)) (zcm (ztm4 88 (by first | rfl | decide +kernel)) (zcm (ztm7 101 (by first | rfl | decide +kernel)) (zcm (ztm7 102 (by first | rfl | decide +kernel)) (zcm (ztm7 103 (by first | rfl | decide +kernel)) (zcm (ztm7 104 (by first | rfl | decide +kernel)) (zcm (ztm7 105 (by first | rfl | decide +kernel)) (zcm (ztm7 107 (by first | rfl | decide +kernel)) (zcm (zpm 70 (by first | rfl | decide +kernel)) (zcm (ztm7 108 (by first | rfl | decide +kernel)) (zcm (ztm7 109 (by first | rfl | decide +kernel)) (zcm (ztm7 111 (by first | rfl | decide +kernel)) (zcm (zpm 71 (by first | rfl | decide +kernel)) (zcm (ztm7 112 (by first | rfl | decide +kernel)) (zcm (ztm7 113 (by first | rfl | decide +kernel)) (zcm (ztm7 114 (by first | rfl | decide +kernel)) (zcm (ztm7 115 (by first | rfl | decide +kernel)) (zcm (ztm7 116 (by first | rfl | decide +kernel)) (zcm (ztm7 118 (by first | rfl | decide +kernel)) (zcm (zpm 72 (by first | rfl | decide +kernel)) (zcm (ztm7 119 (by first | rfl | decide +kernel)) znm))))))))))))))))))))))))
set_option maxRecDepth 20000 in
theorem in_wsL_law0_r37 : ∀ w ∈ wsL_law0_r37, w ∈ lw_tbl := (zcm (ztm4 89 (by first | rfl | decide +kernel)) (zcm (ztm4 90 (by first | rfl | decide +kernel)) (zcm (ztm4 91 (by first | rfl | decide +kernel)) (zcm (ztm4 92 (by first | rfl | decide +kernel)) (zcm (ztm4 93 (by first | rfl | decide +kernel)) (zcm (ztm4 94 (by first | rfl | decide +kernel)) (zcm (ztm4 95 (by first | rfl | decide +kernel)) (zcm (ztm4 96 (by first | rfl | decide +kernel)) (zcm (ztm1 157 (by first | rfl | decide +kernel)) (zcm (ztm2 16 (by first | rfl | decide +kernel)) (zcm (ztm4 97 (by first | rfl | decide +kernel)) (zcm (ztm4 98 (by first | rfl | decide +kernel)) (zcm (ztm4 99 (by first | rfl | decide +kernel)) (zcm (ztm4 100 (by first | rfl | decide +kernel)) (zcm (ztm7 120 (by first | rfl | decide +kernel)) (zcm (ztm7 121 (by first | rfl | decide +kernel)) (zcm (ztm7 122 (by first | rfl | decide +kernel)) (zcm (ztm7 123 (by first | rfl | decide +kernel)) (zcm (ztm7 124 (by first | rfl | decide +kernel)) (zcm (ztm7 126 (by first | rfl | decide +kernel)) (zcm (zpm 73 (by first | rfl | decide +kernel)) (zcm (ztm7 127 (by first | rfl | decide +kernel)) (zcm (ztm7 128 (by first | rfl | decide +kernel)) (zcm (ztm7 130 (by first | rfl | decide +kernel)) znm))))))))))))))))))))))))
set_option maxRecDepth 20000 in
theorem in_wsL_law0_r38 : ∀ w ∈ wsL_law0_r38, w ∈ lw_tbl := (zcm (zpm 74 (by first | rfl | decide +kernel)) (zcm (ztm7 131 (by first | rfl | decide +kernel)) (zcm (ztm4 101 (by first | rfl | decide +kernel)) (zcm (ztm4 102 (by first | rfl | decide +kernel)) (zcm (ztm4 103 (by first | rfl | decide +kernel)) (zcm (ztm4 104 (by first | rfl | decide +kernel)) (zcm (ztm4 105 (by first | rfl | decide +kernel)) (zcm (ztm4 106 (by first | rfl | decide +kernel)) (zcm (ztm4 107 (by first | rfl | decide +kernel)) (zcm (ztm4 108 (by first | rfl | decide +kernel)) (zcm (ztm7 132 (by first | rfl | decide +kernel)) (zcm (ztm7 133 (by first | rfl | decide +kernel)) (zcm (ztm7 134 (by first | rfl | decide +kernel)) (zcm (ztm7 135 (by first | rfl | decide +kernel)) (zcm (ztm7 136 (by first | rfl | decide +kernel)) (zcm (ztm7 138 (by first | rfl | decide +kernel)) (zcm (zpm 75 (by first | rfl | decide +kernel)) (zcm (ztm7 139 (by first | rfl | decide +kernel)) (zcm (ztm4 109 (by first | rfl | decide +kernel)) (zcm (ztm4 110 (by first | rfl | decide +kernel)) (zcm (ztm4 111 (by first | rfl | decide +kernel)) (zcm (ztm4 112 (by first | rfl | decide +kernel)) (zcm (ztm2 22 (by first | rfl | decide +kernel)) (zcm (ztm4 113 (by first | rfl | decide +kernel)) znm))))))))))))))))))))))))
set_option maxRecDepth 20000 in
theorem in_wsL_law0_r39 : ∀ w ∈ wsL_law0_r39, w ∈ lw_tbl := (zcm (ztm4 114 (by first | rfl | decide +kernel)) (zcm (ztm4 115 (by first | rfl | decide +kernel)) (zcm (ztm4 116 (by first | rfl | decide +kernel)) (zcm (ztm1 154 (by first | rfl | decide +kernel)) (zcm (ztm4 117 (by first | rfl | decide +kernel)) (zcm (ztm7 140 (by first | rfl | decide +kernel)) (zcm (ztm7 141 (by first | rfl | decide +kernel)) (zcm (ztm7 142 (by first | rfl | decide +kernel)) (zcm (ztm7 143 (by first | rfl | decide +kernel)) (zcm (ztm7 144 (by first | rfl | decide +kernel)) (zcm (ztm7 146 (by first | rfl | decide +kernel)) (zcm (zpm 76 (by first | rfl | decide +kernel)) (zcm (ztm7 147 (by first | rfl | decide +kernel)) (zcm (ztm7 148 (by first | rfl | decide +kernel)) (zcm (ztm4 118 (by first | rfl | decide +kernel)) (zcm (ztm4 119 (by first | rfl | decide +kernel)) (zcm (ztm4 120 (by first | rfl | decide +kernel)) (zcm (ztm4 121 (by first | rfl | decide +kernel)) (zcm (ztm7 149 (by first | rfl | decide +kernel)) (zcm (ztm7 150 (by first | rfl | decide +kernel)) (zcm (ztm7 151 (by first | rfl | decide +kernel)) (zcm (ztm7 152 (by first | rfl | decide +kernel)) (zcm (ztm4 137 (by first | rfl | decide +kernel)) (zcm (ztm4 138 (by first | rfl | decide +kernel)) znm))))))))))))))))))))))))
set_option maxRecDepth 20000 in
theorem in_wsL_law0_r40 : ∀ w ∈ wsL_law0_r40, w ∈ lw_tbl := (zcm (ztm4 139 (by first | rfl | decide +kernel)) (zcm (ztm4 140 (by first | rfl | decide +kernel)) (zcm (ztm1 134 (by first | rfl | decide +kernel)) (zcm (ztm4 141 (by first | rfl | decide +kernel)) (zcm (ztm4 142 (by first | rfl | decide +kernel)) (zcm (ztm4 143 (by first | rfl | decide +kernel)) (zcm (ztm4 144 (by first | rfl | decide +kernel)) (zcm (ztm4 145 (by first | rfl | decide +kernel)) (zcm (ztm4 146 (by first | rfl | decide +kernel)) (zcm (ztm4 147 (by first | rfl | decide +kernel)) (zcm (ztm4 148 (by first | rfl | decide +kernel)) (zcm (ztm4 149 (by first | rfl | decide +kernel)) (zcm (ztm4 150 (by first | rfl | decide +kernel)) (zcm (ztm4 151 (by first | rfl | decide +kernel)) (zcm (ztm4 152 (by first | rfl | decide +kernel)) (zcm (ztm4 153 (by first | rfl | decide +kernel)) (zcm (ztm4 154 (by first | rfl | decide +kernel)) (zcm (ztm4 155 (by first | rfl | decide +kernel)) (zcm (ztm4 156 (by first | rfl | decide +kernel)) (zcm (ztm4 157 (by first | rfl | decide +kernel)) (zcm (ztm4 158 (by first | rfl | decide +kernel)) (zcm (ztm4 159 (by first | rfl | decide +kernel)) (zcm (ztm4 160 (by first | rfl | decide +kernel)) (zcm (ztm4 161 (by first | rfl | decide +kernel)) znm))))))))))))))))))))))))
set_option maxRecDepth 20000 in
theorem in_wsL_law0_r41 : ∀ w ∈ wsL_law0_r41, w ∈ lw_tbl := (zcm (ztm4 60 (by first | rfl | decide +kernel)) (zcm (ztm4 62 (by first | rfl | decide +kernel)) (zcm (zpm 22 (by first | rfl | decide +kernel)) (zcm (ztm4 63 (by first | rfl | decide +kernel)) (zcm (ztm7 153 (by first | rfl | decide +kernel)) (zcm (ztm7 154 (by first | rfl | decide +kernel)) (zcm (ztm7 155 (by first | rfl | decide +kernel)) (zcm (ztm7 156 (by first | rfl | decide +kernel)) (zcm (ztm7 157 (by first | rfl | decide +kernel)) (zcm (ztm7 159 (by first | rfl | decide +kernel)) (zcm (zpm 77 (by first | rfl | decide +kernel)) (zcm (ztm7 160 (by first | rfl | decide +kernel)) (zcm (ztm7 161 (by first | rfl | decide +kernel)) (zcm (ztm7 163 (by first | rfl | decide +kernel)) (zcm (zpm 78 (by first | rfl | decide +kernel)) (zcm (ztm7 164 (by first | rfl | decide +kernel)) (zcm (ztm7 165 (by first | rfl | decide +kernel)) (zcm (ztm7 167 (by first | rfl | decide +kernel)) (zcm (zpm 79 (by first | rfl | decide +kernel)) (zcm (ztm7 168 (by first | rfl | decide +kernel)) (zcm (ztm7 169 (by first | rfl | decide +kernel)) (zcm (ztm4 162 (by first | rfl | decide +kernel)) (zcm (ztm4 163 (by first | rfl | decide +kernel)) (zcm (ztm4 164 (by first | rfl | decide +kernel)) znm))))))))))))))))))))))))
set_option maxRecDepth 20000 in
theorem in_wsL_law0_r42 : ∀ w ∈ wsL_law0_r42, w ∈ lw_tbl := (zcm (ztm4 165 (by first | rfl | decide +kernel)) (zcm (ztm4 166 (by first | rfl | decide +kernel)) (zcm (ztm4 167 (by first | rfl | decide +kernel)) (zcm (ztm4 168 (by first | rfl | decide +kernel)) (zcm (ztm4 169 (by first | rfl | decide +kernel)) (zcm (ztm2 5 (by first | rfl | decide +kernel)) (zcm (ztm4 170 (by first | rfl | decide +kernel)) (zcm (ztm4 171 (by first | rfl | decide +kernel)) (zcm (ztm4 172 (by first | rfl | decide +kernel)) (zcm (ztm4 173 (by first | rfl | decide +kernel)) (zcm (ztm1 122 (by first | rfl | decide +kernel)) (zcm (ztm1 141 (by first | rfl | decide +kernel)) (zcm (ztm1 114 (by first | rfl | decide +kernel)) (zcm (ztm1 147 (by first | rfl | decide +kernel)) (zcm (ztm4 174 (by first | rfl | decide +kernel)) (zcm (ztm4 175 (by first | rfl | decide +kernel)) (zcm (ztm4 176 (by first | rfl | decide +kernel)) (zcm (ztm4 177 (by first | rfl | decide +kernel)) (zcm (ztm4 178 (by first | rfl | decide +kernel)) (zcm (ztm1 142 (by first | rfl | decide +kernel)) (zcm (ztm4 179 (by first | rfl | decide +kernel)) (zcm (ztm4 181 (by first | rfl | decide +kernel)) (zcm (zpm 24 (by first | rfl | decide +kernel)) (zcm (ztm4 182 (by first | rfl | decide +kernel)) znm))))))))))))))))))))))))
set_option maxRecDepth 20000 in
theorem in_wsL_law0_r43 : ∀ w ∈ wsL_law0_r43, w ∈ lw_tbl := (zcm (ztm4 183 (by first | rfl | decide +kernel)) (zcm (ztm4 185 (by first | rfl | decide +kernel)) (zcm (zpm 25 (by first | rfl | decide +kernel)) (zcm (ztm4 186 (by first | rfl | decide +kernel)) (zcm (ztm7 170 (by first | rfl | decide +kernel)) (zcm (ztm7 171 (by first | rfl | decide +kernel)) (zcm (ztm7 172 (by first | rfl | decide +kernel)) (zcm (ztm7 173 (by first | rfl | decide +kernel)) (zcm (ztm7 174 (by first | rfl | decide +kernel)) (zcm (ztm7 176 (by first | rfl | decide +kernel)) (zcm (zpm 80 (by first | rfl | decide +kernel)) (zcm (ztm7 177 (by first | rfl | decide +kernel)) (zcm (ztm7 178 (by first | rfl | decide +kernel)) (zcm (ztm7 180 (by first | rfl | decide +kernel)) (zcm (zpm 81 (by first | rfl | decide +kernel)) (zcm (ztm7 181 (by first | rfl | decide +kernel)) (zcm (ztm4 188 (by first | rfl | decide +kernel)) (zcm (ztm4 189 (by first | rfl | decide +kernel)) (zcm (ztm4 190 (by first | rfl | decide +kernel)) (zcm (ztm4 191 (by first | rfl | decide +kernel)) (zcm (ztm4 192 (by first | rfl | decide +kernel)) (zcm (ztm4 193 (by first | rfl | decide +kernel)) (zcm (ztm4 194 (by first | rfl | decide +kernel)) (zcm (ztm4 195 (by first | rfl | decide +kernel)) znm))))))))))))))))))))))))
set_option maxRecDepth 20000 in
theorem in_wsL_law0_r44 : ∀ w ∈ wsL_law0_r44, w ∈ lw_tbl := (zcm (ztm4 196 (by first | rfl | decide +kernel)) (zcm (ztm7 182 (by first | rfl | decide +kernel)) (zcm (ztm7 183 (by first | rfl | decide +kernel)) (zcm (ztm7 184 (by first | rfl | decide +kernel)) (zcm (ztm7 185 (by first | rfl | decide +kernel)) (zcm (ztm7 186 (by first | rfl | decide +kernel)) (zcm (ztm7 188 (by first | rfl | decide +kernel)) (zcm (zpm 82 (by first | rfl | decide +kernel)) (zcm (ztm7 189 (by first | rfl | decide +kernel)) (zcm (ztm4 206 (by first | rfl | decide +kernel)) (zcm (ztm4 207 (by first | rfl | decide +kernel)) (zcm (ztm4 208 (by first | rfl | decide +kernel)) (zcm (ztm4 209 (by first | rfl | decide +kernel)) (zcm (ztm2 43 (by first | rfl | decide +kernel)) (zcm (ztm4 210 (by first | rfl | decide +kernel)) (zcm (ztm4 211 (by first | rfl | decide +kernel)) (zcm (ztm4 212 (by first | rfl | decide +kernel)) (zcm (ztm4 213 (by first | rfl | decide +kernel)) (zcm (ztm4 214 (by first | rfl | decide +kernel)) (zcm (ztm4 216 (by first | rfl | decide +kernel)) (zcm (zpm 26 (by first | rfl | decide +kernel)) (zcm (ztm4 217 (by first | rfl | decide +kernel)) (zcm (ztm4 218 (by first | rfl | decide +kernel)) (zcm (ztm4 219 (by first | rfl | decide +kernel)) znm))))))))))))))))))))))))
set_option maxRecDepth 20000 in
theorem in_wsL_law0_r45 : ∀ w ∈ wsL_law0_r45, w ∈ lw_tbl := (zcm (ztm4 220 (by first | rfl | decide +kernel)) (zcm (ztm7 198 (by first | rfl | decide +kernel)) (zcm (ztm7 199 (by first | rfl | decide +kernel)) (zcm (ztm7 200 (by first | rfl | decide +kernel)) (zcm (ztm7 201 (by first | rfl | decide +kernel)) (zcm (ztm7 202 (by first | rfl | decide +kernel)) (zcm (ztm7 204 (by first | rfl | decide +kernel)) (zcm (zpm 83 (by first | rfl | decide +kernel)) (zcm (ztm7 205 (by first | rfl | decide +kernel)) (zcm (ztm4 221 (by first | rfl | decide +kernel)) (zcm (ztm4 222 (by first | rfl | decide +kernel)) (zcm (ztm4 223 (by first | rfl | decide +kernel)) (zcm (ztm4 224 (by first | rfl | decide +kernel)) (zcm (ztm4 225 (by first | rfl | decide +kernel)) (zcm (ztm4 226 (by first | rfl | decide +kernel)) (zcm (ztm4 227 (by first | rfl | decide +kernel)) (zcm (ztm4 228 (by first | rfl | decide +kernel)) (zcm (ztm2 19 (by first | rfl | decide +kernel)) (zcm (ztm4 229 (by first | rfl | decide +kernel)) (zcm (ztm4 230 (by first | rfl | decide +kernel)) (zcm (ztm4 231 (by first | rfl | decide +kernel)) (zcm (ztm4 232 (by first | rfl | decide +kernel)) (zcm (ztm4 233 (by first | rfl | decide +kernel)) (zcm (ztm4 235 (by first | rfl | decide +kernel)) znm))))))))))))))))))))))))
set_option maxRecDepth 20000 in
theorem in_wsL_law0_r46 : ∀ w ∈ wsL_law0_r46, w ∈ lw_tbl := (zcm (zpm 27 (by first | rfl | decide +kernel)) (zcm (ztm4 236 (by first | rfl | decide +kernel)) (zcm (ztm7 206 (by first | rfl | decide +kernel)) (zcm (ztm7 207 (by first | rfl | decide +kernel)) (zcm (ztm7 208 (by first | rfl | decide +kernel)) (zcm (ztm7 209 (by first | rfl | decide +kernel)) (zcm (ztm7 210 (by first | rfl | decide +kernel)) (zcm (ztm7 212 (by first | rfl | decide +kernel)) (zcm (zpm 84 (by first | rfl | decide +kernel)) (zcm (ztm7 213 (by first | rfl | decide +kernel)) (zcm (ztm5 10 (by first | rfl | decide +kernel)) (zcm (ztm5 11 (by first | rfl | decide +kernel)) (zcm (ztm5 12 (by first | rfl | decide +kernel)) (zcm (ztm5 13 (by first | rfl | decide +kernel)) (zcm (ztm5 14 (by first | rfl | decide +kernel)) (zcm (ztm5 16 (by first | rfl | decide +kernel)) (zcm (zpm 28 (by first | rfl | decide +kernel)) (zcm (ztm5 17 (by first | rfl | decide +kernel)) (zcm (ztm5 9 (by first | rfl | decide +kernel)) (zcm (ztm7 214 (by first | rfl | decide +kernel)) (zcm (ztm7 215 (by first | rfl | decide +kernel)) (zcm (ztm7 216 (by first | rfl | decide +kernel)) (zcm (ztm7 217 (by first | rfl | decide +kernel)) (zcm (ztm7 218 (by first | rfl | decide +kernel)) znm))))))))))))))))))))))))
set_option maxRecDepth 20000 in
theorem in_wsL_law0_r47 : ∀ w ∈ wsL_law0_r47, w ∈ lw_tbl := (zcm (ztm7 220 (by first | rfl | decide +kernel)) (zcm (zpm 85 (by first | rfl | decide +kernel)) (zcm (ztm7 221 (by first | rfl | decide +kernel)) (zcm (ztm4 197 (by first | rfl | decide +kernel)) (zcm (ztm4 198 (by first | rfl | decide +kernel)) (zcm (ztm4 199 (by first | rfl | decide +kernel)) (zcm (ztm4 200 (by first | rfl | decide +kernel)) (zcm (ztm4 201 (by first | rfl | decide +kernel)) (zcm (ztm4 202 (by first | rfl | decide +kernel)) (zcm (ztm4 203 (by first | rfl | decide +kernel)) (zcm (ztm4 204 (by first | rfl | decide +kernel)) (zcm (ztm4 205 (by first | rfl | decide +kernel)) (zcm (ztm7 190 (by first | rfl | decide +kernel)) (zcm (ztm7 191 (by first | rfl | decide +kernel)) (zcm (ztm7 192 (by first | rfl | decide +kernel)) (zcm (ztm7 193 (by first | rfl | decide +kernel)) (zcm (ztm5 18 (by first | rfl | decide +kernel)) (zcm (ztm5 19 (by first | rfl | decide +kernel)) (zcm (ztm5 20 (by first | rfl | decide +kernel)) (zcm (ztm5 21 (by first | rfl | decide +kernel)) (zcm (ztm7 222 (by first | rfl | decide +kernel)) (zcm (ztm7 223 (by first | rfl | decide +kernel)) (zcm (ztm7 224 (by first | rfl | decide +kernel)) (zcm (ztm7 225 (by first | rfl | decide +kernel)) znm))))))))))))))))))))))))
set_option maxRecDepth 20000 in
theorem in_wsL_law0_r48 : ∀ w ∈ wsL_law0_r48, w ∈ lw_tbl := (zcm (ztm5 22 (by first | rfl | decide +kernel)) (zcm (ztm5 23 (by first | rfl | decide +kernel)) (zcm (ztm5 24 (by first | rfl | decide +kernel)) (zcm (ztm5 25 (by first | rfl | decide +kernel)) (zcm (ztm1 156 (by first | rfl | decide +kernel)) (zcm (ztm5 26 (by first | rfl | decide +kernel)) (zcm (ztm7 226 (by first | rfl | decide +kernel)) (zcm (ztm7 227 (by first | rfl | decide +kernel)) (zcm (ztm7 228 (by first | rfl | decide +kernel)) (zcm (ztm7 229 (by first | rfl | decide +kernel)) (zcm (ztm4 237 (by first | rfl | decide +kernel)) (zcm (ztm4 238 (by first | rfl | decide +kernel)) (zcm (ztm4 239 (by first | rfl | decide +kernel)) (zcm (ztm5 0 (by first | rfl | decide +kernel)) (zcm (ztm2 41 (by first | rfl | decide +kernel)) (zcm (ztm7 194 (by first | rfl | decide +kernel)) (zcm (ztm7 195 (by first | rfl | decide +kernel)) (zcm (ztm7 196 (by first | rfl | decide +kernel)) (zcm (ztm7 197 (by first | rfl | decide +kernel)) (zcm (ztm5 1 (by first | rfl | decide +kernel)) (zcm (ztm5 2 (by first | rfl | decide +kernel)) (zcm (ztm5 3 (by first | rfl | decide +kernel)) (zcm (ztm5 4 (by first | rfl | decide +kernel)) (zcm (ztm7 230 (by first | rfl | decide +kernel)) znm))))))))))))))))))))))))
set_option maxRecDepth 20000 in
theorem in_wsL_law0_r49 : ∀ w ∈ wsL_law0_r49, w ∈ lw_tbl := (zcm (ztm7 231 (by first | rfl | decide +kernel)) (zcm (ztm7 232 (by first | rfl | decide +kernel)) (zcm (ztm7 233 (by first | rfl | decide +kernel)) (zcm (ztm5 27 (by first | rfl | decide +kernel)) (zcm (ztm5 28 (by first | rfl | decide +kernel)) (zcm (ztm5 29 (by first | rfl | decide +kernel)) (zcm (ztm5 30 (by first | rfl | decide +kernel)) (zcm (ztm2 45 (by first | rfl | decide +kernel)) (zcm (ztm5 31 (by first | rfl | decide +kernel)) (zcm (ztm5 32 (by first | rfl | decide +kernel)) (zcm (ztm5 33 (by first | rfl | decide +kernel)) (zcm (ztm5 34 (by first | rfl | decide +kernel)) (zcm (ztm5 35 (by first | rfl | decide +kernel)) (zcm (ztm5 36 (by first | rfl | decide +kernel)) (zcm (ztm5 37 (by first | rfl | decide +kernel)) (zcm (ztm7 234 (by first | rfl | decide +kernel)) (zcm (ztm7 235 (by first | rfl | decide +kernel)) (zcm (ztm7 236 (by first | rfl | decide +kernel)) (zcm (ztm7 237 (by first | rfl | decide +kernel)) (zcm (ztm7 238 (by first | rfl | decide +kernel)) (zcm (ztm8 0 (by first | rfl | decide +kernel)) (zcm (zpm 86 (by first | rfl | decide +kernel)) (zcm (ztm8 1 (by first | rfl | decide +kernel)) (zcm (ztm5 38 (by first | rfl | decide +kernel)) znm))))))))))))))))))))))))
set_option maxRecDepth 20000 in
theorem in_wsL_law0_r50 : ∀ w ∈ wsL_law0_r50, w ∈ lw_tbl := (zcm (ztm5 39 (by first | rfl | decide +kernel)) (zcm (ztm5 40 (by first | rfl | decide +kernel)) (zcm (ztm5 41 (by first | rfl | decide +kernel)) (zcm (ztm5 42 (by first | rfl | decide +kernel)) (zcm (ztm8 2 (by first | rfl | decide +kernel)) (zcm (ztm8 3 (by first | rfl | decide +kernel)) (zcm (ztm8 4 (by first | rfl | decide +kernel)) (zcm (ztm8 5 (by first | rfl | decide +kernel)) (zcm (ztm5 43 (by first | rfl | decide +kernel)) (zcm (ztm5 44 (by first | rfl | decide +kernel)) (zcm (ztm5 45 (by first | rfl | decide +kernel)) (zcm (ztm5 46 (by first | rfl | decide +kernel)) (zcm (ztm5 47 (by first | rfl | decide +kernel)) (zcm (ztm5 48 (by first | rfl | decide +kernel)) (zcm (ztm1 22 (by first | rfl | decide +kernel)) (zcm (ztm5 49 (by first | rfl | decide +kernel)) (zcm (ztm5 50 (by first | rfl | decide +kernel)) (zcm (ztm5 51 (by first | rfl | decide +kernel)) (zcm (ztm5 52 (by first | rfl | decide +kernel)) (zcm (ztm8 6 (by first | rfl | decide +kernel)) (zcm (ztm8 7 (by first | rfl | decide +kernel)) (zcm (ztm8 8 (by first | rfl | decide +kernel)) (zcm (ztm8 9 (by first | rfl | decide +kernel)) (zcm (ztm8 10 (by first | rfl | decide +kernel)) znm))))))))))))))))))))))))
set_option maxRecDepth 20000 in
theorem in_wsL_law0_r51 : ∀ w ∈ wsL_law0_r51, w ∈ lw_tbl := (zcm (ztm8 11 (by first | rfl | decide +kernel)) (zcm (ztm8 12 (by first | rfl | decide +kernel)) (zcm (ztm5 53 (by first | rfl | decide +kernel)) (zcm (ztm5 54 (by first | rfl | decide +kernel)) (zcm (ztm5 55 (by first | rfl | decide +kernel)) (zcm (ztm5 56 (by first | rfl | decide +kernel)) (zcm (ztm8 13 (by first | rfl | decide +kernel)) (zcm (ztm8 14 (by first | rfl | decide +kernel)) (zcm (ztm8 15 (by first | rfl | decide +kernel)) (zcm (ztm8 16 (by first | rfl | decide +kernel)) (zcm (ztm5 57 (by first | rfl | decide +kernel)) (zcm (ztm5 58 (by first | rfl | decide +kernel)) (zcm (ztm5 59 (by first | rfl | decide +kernel)) (zcm (ztm5 60 (by first | rfl | decide +kernel)) (zcm (ztm2 73 (by first | rfl | decide +kernel)) (zcm (ztm5 61 (by first | rfl | decide +kernel)) (zcm (ztm5 62 (by first | rfl | decide +kernel)) (zcm (ztm5 63 (by first | rfl | decide +kernel)) (zcm (ztm5 64 (by first | rfl | decide +kernel)) (zcm (ztm5 65 (by first | rfl | decide +kernel)) (zcm (ztm5 66 (by first | rfl | decide +kernel)) (zcm (ztm5 67 (by first | rfl | decide +kernel)) (zcm (ztm5 68 (by first | rfl | decide +kernel)) (zcm (ztm5 69 (by first | rfl | decide +kernel)) znm))))))))))))))))))))))))
set_option maxRecDepth 20000 in
theorem in_wsL_law0_r52 : ∀ w ∈ wsL_law0_r52, w ∈ lw_tbl := (zcm (ztm8 17 (by first | rfl | decide +kernel)) (zcm (ztm8 18 (by first | rfl | decide +kernel)) (zcm (ztm8 19 (by first | rfl | decide +kernel)) (zcm (ztm8 20 (by first | rfl | decide +kernel)) (zcm (ztm5 70 (by first | rfl | decide +kernel)) (zcm (ztm5 71 (by first | rfl | decide +kernel)) (zcm (ztm5 72 (by first | rfl | decide +kernel)) (zcm (ztm5 73 (by first | rfl | decide +kernel)) (zcm (ztm2 71 (by first | rfl | decide +kernel)) (zcm (ztm5 74 (by first | rfl | decide +kernel)) (zcm (ztm5 75 (by first | rfl | decide +kernel)) (zcm (ztm5 76 (by first | rfl | decide +kernel)) (zcm (ztm5 77 (by first | rfl | decide +kernel)) (zcm (ztm5 78 (by first | rfl | decide +kernel)) (zcm (ztm5 79 (by first | rfl | decide +kernel)) (zcm (ztm5 80 (by first | rfl | decide +kernel)) (zcm (ztm8 21 (by first | rfl | decide +kernel)) (zcm (ztm8 22 (by first | rfl | decide +kernel)) (zcm (ztm8 23 (by first | rfl | decide +kernel)) (zcm (ztm8 24 (by first | rfl | decide +kernel)) (zcm (ztm8 25 (by first | rfl | decide +kernel)) (zcm (ztm8 27 (by first | rfl | decide +kernel)) (zcm (zpm 87 (by first | rfl | decide +kernel)) (zcm (ztm8 28 (by first | rfl | decide +kernel)) znm))))))))))))))))))))))))
set_option maxRecDepth 20000 in
theorem in_wsL_law0_r53 : ∀ w ∈ wsL_law0_r53, w ∈ lw_tbl := (zcm (ztm5 81 (by first | rfl | decide +kernel)) (zcm (ztm5 82 (by first | rfl | decide +kernel)) (zcm (ztm5 83 (by first | rfl | decide +kernel)) (zcm (ztm5 84 (by first | rfl | decide +kernel)) (zcm (ztm8 29 (by first | rfl | decide +kernel)) (zcm (ztm8 30 (by first | rfl | decide +kernel)) (zcm (ztm8 31 (by first | rfl | decide +kernel)) (zcm (ztm8 32 (by first | rfl | decide +kernel)) (zcm (ztm8 33 (by first | rfl | decide +kernel)) (zcm (ztm5 5 (by first | rfl | decide +kernel)) (zcm (ztm5 6 (by first | rfl | decide +kernel)) (zcm (ztm5 7 (by first | rfl | decide +kernel)) (zcm (ztm5 8 (by first | rfl | decide +kernel)) (zcm (ztm8 34 (by first | rfl | decide +kernel)) (zcm (ztm8 35 (by first | rfl | decide +kernel)) (zcm (ztm8 36 (by first | rfl | decide +kernel)) (zcm (ztm8 37 (by first | rfl | decide +kernel)) (zcm (ztm5 99 (by first | rfl | decide +kernel)) (zcm (ztm5 100 (by first | rfl | decide +kernel)) (zcm (ztm1 0 (by first | rfl | decide +kernel)) (zcm (ztm5 101 (by first | rfl | decide +kernel)) (zcm (ztm5 102 (by first | rfl | decide +kernel)) (zcm (ztm5 103 (by first | rfl | decide +kernel)) (zcm (ztm5 104 (by first | rfl | decide +kernel)) znm))))))))))))))))))))))))
set_option maxRecDepth 20000 in
theorem in_wsL_law0_r54 : ∀ w ∈ wsL_law0_r54, w ∈ lw_tbl := (zcm (ztm5 105 (by first | rfl | decide +kernel)) (zcm (ztm5 106 (by first | rfl | decide +kernel)) (zcm (ztm5 110 (by first | rfl | decide +kernel)) (zcm (ztm1 26 (by first | rfl | decide +kernel)) (zcm (ztm5 107 (by first | rfl | decide +kernel)) (zcm (ztm5 108 (by first | rfl | decide +kernel)) (zcm (ztm5 109 (by first | rfl | decide +kernel)) (zcm (ztm5 175 (by first | rfl | decide +kernel)) (zcm (ztm5 176 (by first | rfl | decide +kernel)) (zcm (ztm5 177 (by first | rfl | decide +kernel)) (zcm (ztm5 178 (by first | rfl | decide +kernel)) (zcm (ztm5 179 (by first | rfl | decide +kernel)) (zcm (ztm5 180 (by first | rfl | decide +kernel)) (zcm (ztm5 181 (by first | rfl | decide +kernel)) (zcm (ztm5 182 (by first | rfl | decide +kernel)) (zcm (ztm5 183 (by first | rfl | decide +kernel)) (zcm (ztm8 38 (by first | rfl | decide +kernel)) (zcm (ztm8 39 (by first | rfl | decide +kernel)) (zcm (ztm8 40 (by first | rfl | decide +kernel)) (zcm (ztm8 41 (by first | rfl | decide +kernel)) (zcm (ztm8 42 (by first | rfl | decide +kernel)) (zcm (ztm8 43 (by first | rfl | decide +kernel)) (zcm (ztm8 44 (by first | rfl | decide +kernel)) (zcm (ztm8 45 (by first | rfl | decide +kernel)) znm))))))))))))))))))))))))
set_option maxRecDepth 20000 in
theorem in_wsL_law0_r55 : ∀ w ∈ wsL_law0_r55, w ∈ lw_tbl := (zcm (ztm8 46 (by first | rfl | decide +kernel)) (zcm (ztm8 47 (by first | rfl | decide +kernel)) (zcm (ztm5 85 (by first | rfl | decide +kernel)) (zcm (ztm5 86 (by first | rfl | decide +kernel)) (zcm (ztm5 87 (by first | rfl | decide +kernel)) (zcm (ztm5 88 (by first | rfl | decide +kernel)) (zcm (ztm5 89 (by first | rfl | decide +kernel)) (zcm (ztm5 90 (by first | rfl | decide +kernel)) (zcm (ztm5 91 (by first | rfl | decide +kernel)) (zcm (ztm5 92 (by first | rfl | decide +kernel)) (zcm (ztm5 93 (by first | rfl | decide +kernel)) (zcm (ztm5 94 (by first | rfl | decide +kernel)) (zcm (ztm5 95 (by first | rfl | decide +kernel)) (zcm (ztm5 96 (by first | rfl | decide +kernel)) (zcm (ztm5 97 (by first | rfl | decide +kernel)) (zcm (ztm5 98 (by first | rfl | decide +kernel)) (zcm (ztm4 56 (by first | rfl | decide +kernel)) (zcm (ztm4 57 (by first | rfl | decide +kernel)) (zcm (ztm4 58 (by first | rfl | decide +kernel)) (zcm (ztm4 59 (by first | rfl | decide +kernel)) (zcm (ztm8 48 (by first | rfl | decide +kernel)) (zcm (ztm8 49 (by first | rfl | decide +kernel)) (zcm (ztm8 50 (by first | rfl | decide +kernel)) (zcm (ztm8 51 (by first | rfl | decide +kernel)) znm))))))))))))))))))))))))
set_option maxRecDepth 20000 in
theorem in_wsL_law0_r56 : ∀ w ∈ wsL_law0_r56, w ∈ lw_tbl := (zcm (ztm6 5 (by first | rfl | decide +kernel)) (zcm (ztm6 6 (by first | rfl | decide +kernel)) (zcm (ztm6 7 (by first | rfl | decide +kernel)) (zcm (ztm8 52 (by first | rfl | decide +kernel)) (zcm (ztm8 54 (by first | rfl | decide +kernel)) (zcm (zpm 88 (by first | rfl | decide +kernel)) (zcm (ztm8 55 (by first | rfl | decide +kernel)) (zcm (ztm8 56 (by first | rfl | decide +kernel)) (zcm (ztm8 58 (by first | rfl | decide +kernel)) (zcm (zpm 89 (by first | rfl | decide +kernel)) (zcm (ztm8 59 (by first | rfl | decide +kernel)) (zcm (ztm8 60 (by first | rfl | decide +kernel)) (zcm (ztm8 61 (by first | rfl | decide +kernel)) (zcm (ztm8 62 (by first | rfl | decide +kernel)) (zcm (ztm8 63 (by first | rfl | decide +kernel)) (zcm (ztm8 64 (by first | rfl | decide +kernel)) (zcm (ztm8 66 (by first | rfl | decide +kernel)) (zcm (zpm 90 (by first | rfl | decide +kernel)) (zcm (ztm8 67 (by first | rfl | decide +kernel)) (zcm (ztm4 122 (by first | rfl | decide +kernel)) (zcm (ztm4 123 (by first | rfl | decide +kernel)) (zcm (ztm4 124 (by first | rfl | decide +kernel)) (zcm (ztm4 125 (by first | rfl | decide +kernel)) (zcm (ztm2 94 (by first | rfl | decide +kernel)) znm))))))))))))))))))))))))
set_option maxRecDepth 20000 in
theorem in_wsL_law0_r57 : ∀ w ∈ wsL_law0_r57, w ∈ lw_tbl := (zcm (ztm2 96 (by first | rfl | decide +kernel)) (zcm (ztm2 98 (by first | rfl | decide +kernel)) (zcm (ztm4 126 (by first | rfl | decide +kernel)) (zcm (ztm4 127 (by first | rfl | decide +kernel)) (zcm (ztm4 128 (by first | rfl | decide +kernel)) (zcm (ztm4 129 (by first | rfl | decide +kernel)) (zcm (ztm4 130 (by first | rfl | decide +kernel)) (zcm (ztm4 131 (by first | rfl | decide +kernel)) (zcm (ztm4 132 (by first | rfl | decide +kernel)) (zcm (ztm4 133 (by first | rfl | decide +kernel)) (zcm (ztm4 134 (by first | rfl | decide +kernel)) (zcm (ztm4 135 (by first | rfl | decide +kernel)) (zcm (ztm4 136 (by first | rfl | decide +kernel)) (zcm (ztm8 68 (by first | rfl | decide +kernel)) (zcm (ztm8 69 (by first | rfl | decide +kernel)) (zcm (ztm8 70 (by first | rfl | decide +kernel)) (zcm (ztm8 71 (by first | rfl | decide +kernel)) (zcm (ztm8 72 (by first | rfl | decide +kernel)) (zcm (ztm8 74 (by first | rfl | decide +kernel)) (zcm (zpm 91 (by first | rfl | decide +kernel)) (zcm (ztm8 75 (by first | rfl | decide +kernel)) (zcm (ztm4 52 (by first | rfl | decide +kernel)) (zcm (ztm4 53 (by first | rfl | decide +kernel)) (zcm (ztm4 54 (by first | rfl | decide +kernel)) znm))))))))))))))))))))))))
set_option maxRecDepth 20000 in
theorem in_wsL_law0_r58 : ∀ w ∈ wsL_law0_r58, w ∈ lw_tbl := (zcm (ztm4 55 (by first | rfl | decide +kernel)) (zcm (ztm1 152 (by first | rfl | decide +kernel)) (zcm (ztm8 76 (by first | rfl | decide +kernel)) (zcm (ztm8 77 (by first | rfl | decide +kernel)) (zcm (ztm8 78 (by first | rfl | decide +kernel)) (zcm (ztm8 79 (by first | rfl | decide +kernel)) znm))))))
set_option maxRecDepth 20000 in
theorem ex_wsX110 : wsX110 = ([.laysFinal RX11 "BeardPass" "tape" "LBeardPass$Tape;", .laysFinal RX11 "BeardPass" "told" "LBeardPass$Land;", .laysFinal RX11 "BeardPass" "toldDraft" "LBeardPass$Land;", .laysFinal RX11 "BeardPass" "landReader" "LBeardPass$LandReader;", .laysFinal RX11 "BeardPass" "plan" "LBeardPass$Journey;", .laysFinal RX11 "BeardPass" "planDraft" "LBeardPass$Journey;", .laysFinal RX11 "BeardPass" "frontier" "LBeardPass$Frontier;", .laysFinal RX11 "BeardPass" "ways" "LBeardPass$Ways;", .laysFinal RX11 "BeardPass" "now" "LBeardPass$Standing;", .laysFinal RX11 "BeardPass" "trial" "LBeardPass$Standing;", .laysFinal RX11 "BeardPass" "sightings" "LBeardPass$Sightings;", .laysFinal RX11 "BeardPass" "past" "[LBeardPass$Standing;", .laysFinal RX11 "BeardPass" "marks" "[LBeardPass$Mark;", .lays RX11 "BeardPass" "pastNext" "I", .lays RX11 "BeardPass" "pastCount" "I"] : List Cond) := by decide +kernel
set_option maxRecDepth 20000 in
theorem in_wsX110 : ∀ w ∈ wsX110, w ∈ lw_tbl := by rw [ex_wsX110]; exact (zcm (ztm2 125 (by first | rfl | decide +kernel)) (zcm (ztm2 127 (by first | rfl | decide +kernel)) (zcm (ztm2 129 (by first | rfl | decide +kernel)) (zcm (ztm2 131 (by first | rfl | decide +kernel)) (zcm (ztm2 133 (by first | rfl | decide +kernel)) (zcm (ztm2 135 (by first | rfl | decide +kernel)) (zcm (ztm2 137 (by first | rfl | decide +kernel)) (zcm (ztm2 139 (by first | rfl | decide +kernel)) (zcm (ztm2 141 (by first | rfl | decide +kernel)) (zcm (ztm2 143 (by first | rfl | decide +kernel)) (zcm (ztm2 145 (by first | rfl | decide +kernel)) (zcm (ztm2 147 (by first | rfl | decide +kernel)) (zcm (ztm2 149 (by first | rfl | decide +kernel)) (zcm (ztm2 151 (by first | rfl | decide +kernel)) (zcm (ztm2 153 (by first | rfl | decide +kernel)) znm)))))))))))))))
set_option maxRecDepth 20000 in
theorem ex_wsX120 : wsX120 = ([.lays RX12 "BeardPassModel" "thrown" "I", .lays RX12 "BeardPassModel" "taped" "I", .laysFinal RX12 "BeardPassModel" "tape" "[I", .lays RX12 "BeardPassModel" "size" "I", .lays RX12 "BeardPassModel" "place" "I", .lays RX12 "BeardPassModel" "begin" "I", .lays RX12 "BeardPassModel" "token" "I", .lays RX12 "BeardPassModel" "word" "J", .lays RX12 "BeardPassModel" "told" "I", .lays RX12 "BeardPassModel" "wrong" "I", .laysFinal RX12 "BeardPassModel" "land" "[I", .laysFinal RX12 "BeardPassModel" "townName" "[J", .laysFinal RX12 "BeardPassModel" "personName" "[J", .laysFinal RX12 "BeardPassModel" "asks" "[I", .laysFinal RX12 "BeardPassModel" "roads" "[I", .laysFinal RX12 "BeardPassModel" "kind" "[I", .laysFinal RX12 "BeardPassModel" "atTold" "[I", .laysFinal RX12 "BeardPassModel" "beardTold" "[I", .laysFinal RX12 "BeardPassModel" "purseTold" "[I", .laysFinal RX12 "BeardPassModel" "lineFrom" "[I", .laysFinal RX12 "BeardPassModel" "lineTo" "[I", .laysFinal RX12 "BeardPassModel" "codes" "[I", .lays RX12 "BeardPassModel" "code" "I", .lays RX12 "BeardPassModel" "toldLines" "I", .laysFinal RX12 "BeardPassModel" "opened" "[I", .laysFinal RX12 "BeardPassModel" "compared" "[Z", .laysFinal RX12 "BeardPassModel" "kept" "[I", .laysFinal RX12 "BeardPassModel" "keptBy" "[I", .laysFinal RX12 "BeardPassModel" "ahead" "[I", .laysFinal RX12 "BeardPassModel" "against" "[I", .laysFinal RX12 "BeardPassModel" "sum" "[I", .laysFinal RX12 "BeardPassModel" "sumBy" "[I", .laysFinal RX12 "BeardPassModel" "term" "[I", .laysFinal RX12 "BeardPassModel" "termBy" "[I", .laysFinal RX12 "BeardPassModel" "byNot" "[I", .laysFinal RX12 "BeardPassModel" "valueOf" "[I", .lays RX12 "BeardPassModel" "given" "I", .lays RX12 "BeardPassModel" "fresh" "J", .laysFinal RX12 "BeardPassModel" "lines" "[I", .laysFinal RX12 "BeardPassModel" "lineWhat" "[I", .laysFinal RX12 "BeardPassModel" "lineA" "[I", .laysFinal RX12 "BeardPassModel" "lineB" "[I", .laysFinal RX12 "BeardPassModel" "seens" "[I", .laysFinal RX12 "BeardPassModel" "seenTown" "[I", .laysFinal RX12 "BeardPassModel" "seenLet" "[Z", .laysFinal RX12 "BeardPassModel" "s" "[I", .laysFinal RX12 "BeardPassModel" "aside" "[I", .laysFinal RX12 "BeardPassModel" "before" "[I", .laysFinal RX12 "BeardPassModel" "marked" "[I", .laysFinal RX12 "BeardPassModel" "undone" "[I", .laysFinal RX12 "BeardPassModel" "isLaid" "[Z", .lays RX12 "BeardPassModel" "done" "I", .lays RX12 "BeardPassModel" "moreAsked" "I", .laysFinal RX12 "BeardPassModel" "stands" "[Z", .lays RX12 "BeardPassModel" "g" "J", .lays RX12 "BeardPassModel" "gone" "I", .lays RX12 "BeardPassModel" "stopped" "I"] : List Cond) := by decide +kernel
set_option maxRecDepth 20000 in
theorem in_wsX120 : ∀ w ∈ wsX120, w ∈ lw_tbl := by rw [ex_wsX120]; exact (zcm (ztm6 8 (by first | rfl | decide +kernel)) (zcm (ztm6 10 (by first | rfl | decide +kernel)) (zcm (ztm6 12 (by first | rfl | decide +kernel)) (zcm (ztm6 14 (by first | rfl | decide +kernel)) (zcm (ztm6 16 (by first | rfl | decide +kernel)) (zcm (ztm6 18 (by first | rfl | decide +kernel)) (zcm (ztm6 20 (by first | rfl | decide +kernel)) (zcm (ztm6 22 (by first | rfl | decide +kernel)) (zcm (ztm6 24 (by first | rfl | decide +kernel)) (zcm (ztm6 26 (by first | rfl | decide +kernel)) (zcm (ztm6 28 (by first | rfl | decide +kernel)) (zcm (ztm6 30 (by first | rfl | decide +kernel)) (zcm (ztm6 32 (by first | rfl | decide +kernel)) (zcm (ztm6 34 (by first | rfl | decide +kernel)) (zcm (ztm6 36 (by first | rfl | decide +kernel)) (zcm (ztm6 38 (by first | rfl | decide +kernel)) (zcm (ztm6 40 (by first | rfl | decide +kernel)) (zcm (ztm6 42 (by first | rfl | decide +kernel)) (zcm (ztm6 44 (by first | rfl | decide +kernel)) (zcm (ztm6 46 (by first | rfl | decide +kernel)) (zcm (ztm6 48 (by first | rfl | decide +kernel)) (zcm (ztm6 50 (by first | rfl | decide +kernel)) (zcm (ztm6 52 (by first | rfl | decide +kernel)) (zcm (ztm6 54 (by first | rfl | decide +kernel)) (zcm (ztm6 56 (by first | rfl | decide +kernel)) (zcm (ztm6 58 (by first | rfl | decide +kernel)) (zcm (ztm6 60 (by first | rfl | decide +kernel)) (zcm (ztm6 62 (by first | rfl | decide +kernel)) (zcm (ztm6 64 (by first | rfl | decide +kernel)) (zcm (ztm6 66 (by first | rfl | decide +kernel)) (zcm (ztm6 68 (by first | rfl | decide +kernel)) (zcm (ztm6 70 (by first | rfl | decide +kernel)) (zcm (ztm6 72 (by first | rfl | decide +kernel)) (zcm (ztm6 74 (by first | rfl | decide +kernel)) (zcm (ztm6 76 (by first | rfl | decide +kernel)) (zcm (ztm6 78 (by first | rfl | decide +kernel)) (zcm (ztm6 80 (by first | rfl | decide +kernel)) (zcm (ztm6 82 (by first | rfl | decide +kernel)) (zcm (ztm6 84 (by first | rfl | decide +kernel)) (zcm (ztm6 86 (by first | rfl | decide +kernel)) (zcm (ztm6 88 (by first | rfl | decide +kernel)) (zcm (ztm6 90 (by first | rfl | decide +kernel)) (zcm (ztm6 92 (by first | rfl | decide +kernel)) (zcm (ztm6 94 (by first | rfl | decide +kernel)) (zcm (ztm6 96 (by first | rfl | decide +kernel)) (zcm (ztm6 98 (by first | rfl | decide +kernel)) (zcm (ztm6 100 (by first | rfl | decide +kernel)) (zcm (ztm6 102 (by first | rfl | decide +kernel)) (zcm (ztm6 104 (by first | rfl | decide +kernel)) (zcm (ztm6 106 (by first | rfl | decide +kernel)) (zcm (ztm6 108 (by first | rfl | decide +kernel)) (zcm (ztm6 110 (by first | rfl | decide +kernel)) (zcm (ztm6 112 (by first | rfl | decide +kernel)) (zcm (ztm6 114 (by first | rfl | decide +kernel)) (zcm (ztm6 116 (by first | rfl | decide +kernel)) (zcm (ztm6 118 (by first | rfl | decide +kernel)) (zcm (ztm6 120 (by first | rfl | decide +kernel)) znm)))))))))))))))))))))))))))))))))))))))))))))))))))))))))
set_option maxRecDepth 20000 in
theorem ex_wsX90 : wsX90 = ([.laysFinal RX9 "BeardPass$Tape" "signs" "[C", .lays RX9 "BeardPass$Tape" "length" "I", .lays RX9 "BeardPass$Tape" "place" "I", .lays RX9 "BeardPass$Tape" "next" "I", .lays RX9 "BeardPass$Tape" "sort" "LBeardPass$Sort;", .lays RX9 "BeardPass$Tape" "number" "I", .lays RX9 "BeardPass$Tape" "word" "J", .lays RX9 "BeardPass$Tape" "fault" "I"] : List Cond) := by decide +kernel
set_option maxRecDepth 20000 in
theorem in_wsX90 : ∀ w ∈ wsX90, w ∈ lw_tbl := by rw [ex_wsX90]; exact (zcm (ztm1 58 (by first | rfl | decide +kernel)) (zcm (ztm1 60 (by first | rfl | decide +kernel)) (zcm (ztm1 62 (by first | rfl | decide +kernel)) (zcm (ztm1 64 (by first | rfl | decide +kernel)) (zcm (ztm1 66 (by first | rfl | decide +kernel)) (zcm (ztm1 68 (by first | rfl | decide +kernel)) (zcm (ztm1 70 (by first | rfl | decide +kernel)) (zcm (ztm1 72 (by first | rfl | decide +kernel)) znm))))))))
set_option maxRecDepth 20000 in
theorem ex_wsX20 : wsX20 = ([.laysFinal RX2 "BeardPass$Land" "asks" "[I", .laysFinal RX2 "BeardPass$Land" "roads" "[I", .laysFinal RX2 "BeardPass$Land" "townNames" "[J", .laysFinal RX2 "BeardPass$Land" "kinds" "[I", .laysFinal RX2 "BeardPass$Land" "homes" "[I", .laysFinal RX2 "BeardPass$Land" "beards" "[I", .laysFinal RX2 "BeardPass$Land" "purses" "[I", .laysFinal RX2 "BeardPass$Land" "personNames" "[J", .laysFinal RX2 "BeardPass$Land" "law" "LBeardPass$Law;", .lays RX2 "BeardPass$Land" "towns" "I", .lays RX2 "BeardPass$Land" "persons" "I", .lays RX2 "BeardPass$Land" "grows" "I", .lays RX2 "BeardPass$Land" "inch" "I"] : List Cond) := by decide +kernel
set_option maxRecDepth 20000 in
theorem in_wsX20 : ∀ w ∈ wsX20, w ∈ lw_tbl := by rw [ex_wsX20]; exact (zcm (ztm1 159 (by first | rfl | decide +kernel)) (zcm (ztm1 161 (by first | rfl | decide +kernel)) (zcm (ztm1 163 (by first | rfl | decide +kernel)) (zcm (ztm1 165 (by first | rfl | decide +kernel)) (zcm (ztm1 167 (by first | rfl | decide +kernel)) (zcm (ztm1 169 (by first | rfl | decide +kernel)) (zcm (ztm1 171 (by first | rfl | decide +kernel)) (zcm (ztm1 173 (by first | rfl | decide +kernel)) (zcm (ztm1 175 (by first | rfl | decide +kernel)) (zcm (ztm1 177 (by first | rfl | decide +kernel)) (zcm (ztm1 179 (by first | rfl | decide +kernel)) (zcm (ztm1 181 (by first | rfl | decide +kernel)) (zcm (ztm1 183 (by first | rfl | decide +kernel)) znm)))))))))))))
set_option maxRecDepth 20000 in
theorem ex_wsX30 : wsX30 = ([.lays RX3 "BeardPass$LandReader" "growsTold" "Z", .lays RX3 "BeardPass$LandReader" "inchTold" "Z", .lays RX3 "BeardPass$LandReader" "readsTold" "Z"] : List Cond) := by decide +kernel
set_option maxRecDepth 20000 in
theorem in_wsX30 : ∀ w ∈ wsX30, w ∈ lw_tbl := by rw [ex_wsX30]; exact (zcm (ztm1 195 (by first | rfl | decide +kernel)) (zcm (ztm1 197 (by first | rfl | decide +kernel)) (zcm (ztm1 199 (by first | rfl | decide +kernel)) znm)))
set_option maxRecDepth 20000 in
theorem ex_wsX10 : wsX10 = ([.laysFinal RX1 "BeardPass$Journey" "deeds" "[I", .laysFinal RX1 "BeardPass$Journey" "doers" "[I", .laysFinal RX1 "BeardPass$Journey" "objects" "[I", .lays RX1 "BeardPass$Journey" "lines" "I"] : List Cond) := by decide +kernel
set_option maxRecDepth 20000 in
theorem in_wsX10 : ∀ w ∈ wsX10, w ∈ lw_tbl := by rw [ex_wsX10]; exact (zcm (ztm1 213 (by first | rfl | decide +kernel)) (zcm (ztm1 215 (by first | rfl | decide +kernel)) (zcm (ztm1 217 (by first | rfl | decide +kernel)) (zcm (ztm1 219 (by first | rfl | decide +kernel)) znm))))
set_option maxRecDepth 20000 in
theorem ex_wsX00 : wsX00 = ([.laysFinal RX0 "BeardPass$Frontier" "land" "LBeardPass$Land;"] : List Cond) := by decide +kernel
set_option maxRecDepth 20000 in
theorem in_wsX00 : ∀ w ∈ wsX00, w ∈ lw_tbl := by rw [ex_wsX00]; exact (zcm (ztm1 229 (by first | rfl | decide +kernel)) znm)
set_option maxRecDepth 20000 in
theorem ex_wsX100 : wsX100 = ([.laysFinal RX10 "BeardPass$Ways" "land" "LBeardPass$Land;", .laysFinal RX10 "BeardPass$Ways" "frontier" "LBeardPass$Frontier;", .laysFinal RX10 "BeardPass$Ways" "ahead" "LBeardPass$Standing;", .laysFinal RX10 "BeardPass$Ways" "standsAfter" "[I", .laysFinal RX10 "BeardPass$Ways" "steps" "[I", .laysFinal RX10 "BeardPass$Ways" "soonest" "[I", .laysFinal RX10 "BeardPass$Ways" "latest" "[I"] : List Cond) := by decide +kernel
set_option maxRecDepth 20000 in
theorem in_wsX100 : ∀ w ∈ wsX100, w ∈ lw_tbl := by rw [ex_wsX100]; exact (zcm (ztm2 46 (by first | rfl | decide +kernel)) (zcm (ztm2 48 (by first | rfl | decide +kernel)) (zcm (ztm2 50 (by first | rfl | decide +kernel)) (zcm (ztm2 52 (by first | rfl | decide +kernel)) (zcm (ztm2 54 (by first | rfl | decide +kernel)) (zcm (ztm2 56 (by first | rfl | decide +kernel)) (zcm (ztm2 58 (by first | rfl | decide +kernel)) znm)))))))
set_option maxRecDepth 20000 in
theorem ex_wsX80 : wsX80 = ([.laysFinal RX8 "BeardPass$Standing" "places" "[I", .laysFinal RX8 "BeardPass$Standing" "beards" "[I", .laysFinal RX8 "BeardPass$Standing" "forged" "[I", .laysFinal RX8 "BeardPass$Standing" "purses" "[I", .laysFinal RX8 "BeardPass$Standing" "been" "[I", .lays RX8 "BeardPass$Standing" "weeks" "I"] : List Cond) := by decide +kernel
set_option maxRecDepth 20000 in
theorem in_wsX80 : ∀ w ∈ wsX80, w ∈ lw_tbl := by rw [ex_wsX80]; exact (zcm (ztm2 23 (by first | rfl | decide +kernel)) (zcm (ztm2 25 (by first | rfl | decide +kernel)) (zcm (ztm2 27 (by first | rfl | decide +kernel)) (zcm (ztm2 29 (by first | rfl | decide +kernel)) (zcm (ztm2 31 (by first | rfl | decide +kernel)) (zcm (ztm2 33 (by first | rfl | decide +kernel)) znm))))))
set_option maxRecDepth 20000 in
theorem ex_wsX60 : wsX60 = ([.lays RX6 "BeardPass$Sightings" "possible" "I", .lays RX6 "BeardPass$Sightings" "many" "I"] : List Cond) := by decide +kernel
set_option maxRecDepth 20000 in
theorem in_wsX60 : ∀ w ∈ wsX60, w ∈ lw_tbl := by rw [ex_wsX60]; exact (zcm (ztm2 74 (by first | rfl | decide +kernel)) (zcm (ztm2 76 (by first | rfl | decide +kernel)) znm))
set_option maxRecDepth 20000 in
theorem ex_wsX50 : wsX50 = ([.laysFinal RX5 "BeardPass$Mark" "standing" "LBeardPass$Standing;", .laysFinal RX5 "BeardPass$Mark" "plan" "LBeardPass$Journey;", .laysFinal RX5 "BeardPass$Mark" "sightings" "LBeardPass$Sightings;", .lays RX5 "BeardPass$Mark" "laid" "Z"] : List Cond) := by decide +kernel
set_option maxRecDepth 20000 in
theorem in_wsX50 : ∀ w ∈ wsX50, w ∈ lw_tbl := by rw [ex_wsX50]; exact (zcm (ztm2 101 (by first | rfl | decide +kernel)) (zcm (ztm2 103 (by first | rfl | decide +kernel)) (zcm (ztm2 105 (by first | rfl | decide +kernel)) (zcm (ztm2 107 (by first | rfl | decide +kernel)) znm))))
set_option maxRecDepth 20000 in
theorem ex_wsX40 : wsX40 = ([.laysFinal RX4 "BeardPass$Law" "code" "[I", .laysFinal RX4 "BeardPass$Law" "stack" "[I", .lays RX4 "BeardPass$Law" "size" "I"] : List Cond) := by decide +kernel
set_option maxRecDepth 20000 in
theorem in_wsX40 : ∀ w ∈ wsX40, w ∈ lw_tbl := by rw [ex_wsX40]; exact (zcm (ztm1 92 (by first | rfl | decide +kernel)) (zcm (ztm1 94 (by first | rfl | decide +kernel)) (zcm (ztm1 96 (by first | rfl | decide +kernel)) znm)))
theorem wsL_law_in0 : ∀ w ∈ wsL_law0, w ∈ lw_tbl := zmem (zmem (zmem (zmem (zmem (zmem (zmem (zmem (zmem (zmem (zmem (zmem (zmem (zmem in_wsL_law0_r1 (zmem in_wsL_law0_r2 (zmem in_wsL_law0_r3 (zmem in_wsL_law0_r4 (zmem in_wsL_law0_r5 (zmem in_wsL_law0_r6 (zmem in_wsL_law0_r7 (zmem in_wsL_law0_r8 (zmem in_wsL_law0_r9 (zmem in_wsL_law0_r10 (zmem in_wsL_law0_r11 (zmem in_wsL_law0_r12 (zmem in_wsL_law0_r13 (zmem in_wsL_law0_r14 (zmem in_wsL_law0_r15 (zmem in_wsL_law0_r16 (zmem in_wsL_law0_r17 (zmem in_wsL_law0_r18 (zmem in_wsL_law0_r19 (zmem in_wsL_law0_r20 (zmem in_wsL_law0_r21 (zmem in_wsL_law0_r22 (zmem in_wsL_law0_r23 (zmem in_wsL_law0_r24 (zmem in_wsL_law0_r25 (zmem in_wsL_law0_r26 (zmem in_wsL_law0_r27 (zmem in_wsL_law0_r28 (zmem in_wsL_law0_r29 (zmem in_wsL_law0_r30 (zmem in_wsL_law0_r31 (zmem in_wsL_law0_r32 (zmem in_wsL_law0_r33 (zmem in_wsL_law0_r34 (zmem in_wsL_law0_r35 (zmem in_wsL_law0_r36 (zmem in_wsL_law0_r37 (zmem in_wsL_law0_r38 (zmem in_wsL_law0_r39 (zmem in_wsL_law0_r40 (zmem in_wsL_law0_r41 (zmem in_wsL_law0_r42 (zmem in_wsL_law0_r43 (zmem in_wsL_law0_r44 (zmem in_wsL_law0_r45 (zmem in_wsL_law0_r46 (zmem in_wsL_law0_r47 (zmem in_wsL_law0_r48 (zmem in_wsL_law0_r49 (zmem in_wsL_law0_r50 (zmem in_wsL_law0_r51 (zmem in_wsL_law0_r52 (zmem in_wsL_law0_r53 (zmem in_wsL_law0_r54 (zmem in_wsL_law0_r55 (zmem in_wsL_law0_r56 (zmem in_wsL_law0_r57 in_wsL_law0_r58))))))))))))))))))))))))))))))))))))))))))))))))))))))))) in_wsX110) in_wsX120) in_wsX90) in_wsX20) in_wsX30) in_wsX10) in_wsX00) in_wsX100) in_wsX80) in_wsX60) in_wsX50) in_wsX40) (fun _ h => nomatch h)
/-! ===== a frontier at rest: what both answer ===== -/
noncomputable def zat0 (w : Int32) : Int32 := if w ≤ 0 then 1 else 0
noncomputable def zat1 (r w : Int32) : Int32 := if -w < r then 0 else if 0 ≤ w then 1 else 0
noncomputable def zat3 (r w : Int32) : Int32 := if r < -w then 0 else if 0 ≤ -r then 1 else 0
noncomputable def zrq4 (q f : Int32) : Option Int32 := if q = -1 then some f else none
noncomputable def zrq3 (r w q f g : Int32) : Option Int32 := if zat3 r w = 0 then zrq4 q f else if f = q then some 3 else zrq4 q g
noncomputable def zrq1 (r w q f g h : Int32) : Option Int32 := if zat1 r w = 0 then zrq3 r w q f g else if f = q then some 1 else zrq3 r w q g h
noncomputable def zrq0 (r w q : Int32) : Option Int32 := if zat0 w = 0 then zrq1 r w q 0 1 2 else if (0 : Int32) = q then some 0 else zrq1 r w q 1 2 3
noncomputable def zrs (r w q : Int32) : Option Int32 := if zwi r 0 9 = 0 then none else if zwi w 0 9 = 0 then none else if -1 ≤ q then zrq0 r w q else none
noncomputable def zrv (r w q : Int32) : Int32 := (zrs r w q).getD 0
noncomputable def zth (r w q : Int32) : Int32 := if (zrs r w q).isSome then 0 else 1
noncomputable def zou (f : Nat → Int64) (r w q : Int32) : Nat → Int64 := match zrs r w q with
  | some v => vp_updL f 0 v.toInt64
  | none => f
theorem zth_some {r w q v : Int32} (h : zrs r w q = some v) : zth r w q = 0 := by unfold zth; rw [h]; rfl
theorem zth_none {r w q : Int32} (h : zrs r w q = none) : zth r w q = 1 := by unfold zth; rw [h]; rfl
theorem zrv_some {r w q v : Int32} (h : zrs r w q = some v) : zrv r w q = v := by unfold zrv; rw [h]; rfl
theorem zrv_none {r w q : Int32} (h : zrs r w q = none) : zrv r w q = 0 := by unfold zrv; rw [h]; rfl
theorem zou_some {f : Nat → Int64} {r w q v : Int32} (h : zrs r w q = some v) : zou f r w q = vp_updL f 0 v.toInt64 := by unfold zou; rw [h]
theorem zou_none {f : Nat → Int64} {r w q : Int32} (h : zrs r w q = none) : zou f r w q = f := by unfold zou; rw [h]
theorem zsge {r w q : Int32} (h : ¬ q < -1) : -1 ≤ q := Int32.not_lt.mp h
theorem zslt {r w q : Int32} (h : q < -1) : ¬ -1 ≤ q := Int32.not_le.mpr h
set_option maxHeartbeats 4000000 in
set_option maxRecDepth 100000 in
/-- within -/
theorem c_within (l : Launch) (D : va_G) (ct : Nat → ClassId) (v : Int32) (a : Int32) (b : Int32)  : zC l yX12_within wsX12_within ({ frames := 1, cells := 0, slots := 0, locals := 80 }) D ct [] [.int v, .int a, .int b] [] (S := Unit) (fun _ => some (.int (zwi v a b))) (fun _ => True) (fun _ => []) 0 0 := by
  refine zofW cX12_within 3 (some .boolean) (by decide) rfl (Nat.le_of_ble_eq_true rfl) ?_
  intro p e s m below meth c A hx hb hr hml hts hown hlocks hname hK hA hZ hN H locs hw hS ls hl
  have hown : s.vm.findClass RX12 = some m.cls := hown
  have hl : lv_has ls 3 [(0, .int v), (1, .int a), (2, .int b)] := hl
  refine lv_iload_n hx hb dX12_within_0 rfl (lv_at hl 0 rfl) ?_
  refine lv_iload_n hx hb dX12_within_1 rfl (lv_at hl 1 rfl) ?_
  refine lv_icmp_lt (tgt := 14) hx hb dX12_within_2 (by decide) (fun c_1 => ?_) (fun c_1 => ?_)
  · refine lv_iconst (v := 0) hx hb dX12_within_14 (by decide) ?_
    exact ziret hx hb hr (rfl) hlocks () (by simp [zwi, c_1]) (trivial) hw [] rfl (rfl) hS (Nat.le_of_ble_eq_true rfl) (Nat.le_of_ble_eq_true rfl) dX12_within_15
  · refine lv_iload_n hx hb dX12_within_5 rfl (lv_at hl 0 rfl) ?_
    refine lv_iload_n hx hb dX12_within_6 rfl (lv_at hl 2 rfl) ?_
    refine lv_icmp_gt (tgt := 14) hx hb dX12_within_7 (by decide) (fun c_2 => ?_) (fun c_2 => ?_)
    · refine lv_iconst (v := 0) hx hb dX12_within_14 (by decide) ?_
      exact ziret hx hb hr (rfl) hlocks () (by simp [zwi, c_1, c_2]) (trivial) hw [] rfl (rfl) hS (Nat.le_of_ble_eq_true rfl) (Nat.le_of_ble_eq_true rfl) dX12_within_15
    · refine lv_iconst (v := 1) hx hb dX12_within_10 (by decide) ?_
      refine lv_goto (tgt := 15) hx hb dX12_within_11 (by decide) ?_
      exact ziret hx hb hr (rfl) hlocks () (by simp [zwi, c_1, c_2]) (trivial) hw [] rfl (rfl) hS (Nat.le_of_ble_eq_true rfl) (Nat.le_of_ble_eq_true rfl) dX12_within_15


set_option maxHeartbeats 4000000 in
set_option maxRecDepth 100000 in
/-- isStake -/
theorem c_stake (l : Launch) (D : va_G) (ct : Nat → ClassId) (v : Int32)  : zC l yX11_isStake wsX11_isStake ({ frames := 1, cells := 0, slots := 0, locals := 80 }) D ct [] [.int v] [] (S := Unit) (fun _ => some (.int (zwi v 0 9))) (fun _ => True) (fun _ => []) 0 0 := by
  refine zofW cX11_isStake 1 (some .boolean) (by decide) rfl (Nat.le_of_ble_eq_true rfl) ?_
  intro p e s m below meth c A hx hb hr hml hts hown hlocks hname hK hA hZ hN H locs hw hS ls hl
  have hown : s.vm.findClass RX11 = some m.cls := hown
  have hl : lv_has ls 1 [(0, .int v)] := hl
  refine lv_iload_n hx hb dX11_isStake_0 rfl (lv_at hl 0 rfl) ?_
  refine lv_if_lt (tgt := 14) hx hb dX11_isStake_1 (by decide) (fun c_1 => ?_) (fun c_1 => ?_)
  · refine lv_iconst (v := 0) hx hb dX11_isStake_14 (by decide) ?_
    exact ziret hx hb hr (rfl) hlocks () (by simp [zwi, c_1]) (trivial) hw [] rfl (rfl) hS (Nat.le_of_ble_eq_true rfl) (Nat.le_of_ble_eq_true rfl) dX11_isStake_15
  · refine lv_iload_n hx hb dX11_isStake_4 rfl (lv_at hl 0 rfl) ?_
    refine lv_bipush (v := 9) hx hb dX11_isStake_5 (by decide) ?_
    refine lv_icmp_gt (tgt := 14) hx hb dX11_isStake_7 (by decide) (fun c_2 => ?_) (fun c_2 => ?_)
    · refine lv_iconst (v := 0) hx hb dX11_isStake_14 (by decide) ?_
      exact ziret hx hb hr (rfl) hlocks () (by simp [zwi, c_1, c_2]) (trivial) hw [] rfl (rfl) hS (Nat.le_of_ble_eq_true rfl) (Nat.le_of_ble_eq_true rfl) dX11_isStake_15
    · refine lv_iconst (v := 1) hx hb dX11_isStake_10 (by decide) ?_
      refine lv_goto (tgt := 15) hx hb dX11_isStake_11 (by decide) ?_
      exact ziret hx hb hr (rfl) hlocks () (by simp [zwi, c_1, c_2]) (trivial) hw [] rfl (rfl) hS (Nat.le_of_ble_eq_true rfl) (Nat.le_of_ble_eq_true rfl) dX11_isStake_15

set_option maxHeartbeats 4000000 in
set_option maxRecDepth 100000 in
theorem c_gg0 (l : Launch) (D : va_G) (ct : Nat → ClassId) (r : Int32) (w : Int32)  : zC l yX11_guardGets wsX11_guardGets ({ frames := 1, cells := 0, slots := 0, locals := 80 }) D ct [] [.int r, .int w, .int 0] [] (S := Unit) (fun _ => some (.int 0)) (fun _ => True) (fun _ => []) 0 0 := by
  refine zofW cX11_guardGets 3 (some .int) (by decide) rfl (Nat.le_of_ble_eq_true rfl) ?_
  intro p e s m below meth c A hx hb hr hml hts hown hlocks hname hK hA hZ hN H locs hw hS ls hl
  have hown : s.vm.findClass RX11 = some m.cls := hown
  have hl : lv_has ls 3 [(0, .int r), (1, .int w), (2, .int 0)] := hl
  refine lv_iload_n hx hb dX11_guardGets_0 rfl (lv_at hl 2 rfl) ?_
  refine lv_tableOut (tgt := 35) hx hb dX11_guardGets_1 (by decide) (by decide) ?_
  refine lv_iconst (v := 0) hx hb dX11_guardGets_35 (by decide) ?_
  exact ziret hx hb hr (rfl) hlocks () (rfl) (trivial) hw [] rfl (rfl) hS (Nat.le_of_ble_eq_true rfl) (Nat.le_of_ble_eq_true rfl) dX11_guardGets_36

set_option maxHeartbeats 4000000 in
set_option maxRecDepth 100000 in
theorem c_tg0 (l : Launch) (D : va_G) (ct : Nat → ClassId) (r : Int32) (w : Int32)  : zC l yX11_travellerGets wsX11_travellerGets ({ frames := 1, cells := 0, slots := 0, locals := 80 }) D ct [] [.int r, .int w, .int 0] [] (S := Unit) (fun _ => some (.int 0)) (fun _ => True) (fun _ => []) 0 0 := by
  refine zofW cX11_travellerGets 3 (some .int) (by decide) rfl (Nat.le_of_ble_eq_true rfl) ?_
  intro p e s m below meth c A hx hb hr hml hts hown hlocks hname hK hA hZ hN H locs hw hS ls hl
  have hown : s.vm.findClass RX11 = some m.cls := hown
  have hl : lv_has ls 3 [(0, .int r), (1, .int w), (2, .int 0)] := hl
  refine lv_iload_n hx hb dX11_travellerGets_0 rfl (lv_at hl 2 rfl) ?_
  refine lv_lookup (off := 32) (tgt := 33) hx hb dX11_travellerGets_1 (by decide) (by decide) (by decide) ?_
  refine lv_iconst (v := 0) hx hb dX11_travellerGets_33 (by decide) ?_
  exact ziret hx hb hr (rfl) hlocks () (rfl) (trivial) hw [] rfl (rfl) hS (Nat.le_of_ble_eq_true rfl) (Nat.le_of_ble_eq_true rfl) dX11_travellerGets_34

set_option maxHeartbeats 4000000 in
set_option maxRecDepth 100000 in
theorem c_gg1 (l : Launch) (D : va_G) (ct : Nat → ClassId) (r : Int32) (w : Int32)  : zC l yX11_guardGets wsX11_guardGets ({ frames := 1, cells := 0, slots := 0, locals := 80 }) D ct [] [.int r, .int w, .int 1] [] (S := Unit) (fun _ => some (.int (-w))) (fun _ => True) (fun _ => []) 0 0 := by
  refine zofW cX11_guardGets 3 (some .int) (by decide) rfl (Nat.le_of_ble_eq_true rfl) ?_
  intro p e s m below meth c A hx hb hr hml hts hown hlocks hname hK hA hZ hN H locs hw hS ls hl
  have hown : s.vm.findClass RX11 = some m.cls := hown
  have hl : lv_has ls 3 [(0, .int r), (1, .int w), (2, .int 1)] := hl
  refine lv_iload_n hx hb dX11_guardGets_0 rfl (lv_at hl 2 rfl) ?_
  refine lv_tableIn (off := 27) (tgt := 28) hx hb dX11_guardGets_1 (by decide) (by decide) (by decide) (by decide) ?_
  refine lv_iload_n hx hb dX11_guardGets_28 rfl (lv_at hl 1 rfl) ?_
  refine lv_ineg hx hb dX11_guardGets_29 ?_
  exact ziret hx hb hr (rfl) hlocks () (rfl) (trivial) hw [] rfl (rfl) hS (Nat.le_of_ble_eq_true rfl) (Nat.le_of_ble_eq_true rfl) dX11_guardGets_30

set_option maxHeartbeats 4000000 in
set_option maxRecDepth 100000 in
theorem c_tg1 (l : Launch) (D : va_G) (ct : Nat → ClassId) (r : Int32) (w : Int32)  : zC l yX11_travellerGets wsX11_travellerGets ({ frames := 1, cells := 0, slots := 0, locals := 80 }) D ct [] [.int r, .int w, .int 1] [] (S := Unit) (fun _ => some (.int w)) (fun _ => True) (fun _ => []) 0 0 := by
  refine zofW cX11_travellerGets 3 (some .int) (by decide) rfl (Nat.le_of_ble_eq_true rfl) ?_
  intro p e s m below meth c A hx hb hr hml hts hown hlocks hname hK hA hZ hN H locs hw hS ls hl
  have hown : s.vm.findClass RX11 = some m.cls := hown
  have hl : lv_has ls 3 [(0, .int r), (1, .int w), (2, .int 1)] := hl
  refine lv_iload_n hx hb dX11_travellerGets_0 rfl (lv_at hl 2 rfl) ?_
  refine lv_lookup (off := 27) (tgt := 28) hx hb dX11_travellerGets_1 (by decide) (by decide) (by decide) ?_
  refine lv_iload_n hx hb dX11_travellerGets_28 rfl (lv_at hl 1 rfl) ?_
  exact ziret hx hb hr (rfl) hlocks () (rfl) (trivial) hw [] rfl (rfl) hS (Nat.le_of_ble_eq_true rfl) (Nat.le_of_ble_eq_true rfl) dX11_travellerGets_29

set_option maxHeartbeats 4000000 in
set_option maxRecDepth 100000 in
theorem c_gg2 (l : Launch) (D : va_G) (ct : Nat → ClassId) (r : Int32) (w : Int32)  : zC l yX11_guardGets wsX11_guardGets ({ frames := 1, cells := 0, slots := 0, locals := 80 }) D ct [] [.int r, .int w, .int 2] [] (S := Unit) (fun _ => some (.int (-1))) (fun _ => True) (fun _ => []) 0 0 := by
  refine zofW cX11_guardGets 3 (some .int) (by decide) rfl (Nat.le_of_ble_eq_true rfl) ?_
  intro p e s m below meth c A hx hb hr hml hts hown hlocks hname hK hA hZ hN H locs hw hS ls hl
  have hown : s.vm.findClass RX11 = some m.cls := hown
  have hl : lv_has ls 3 [(0, .int r), (1, .int w), (2, .int 2)] := hl
  refine lv_iload_n hx hb dX11_guardGets_0 rfl (lv_at hl 2 rfl) ?_
  refine lv_tableIn (off := 30) (tgt := 31) hx hb dX11_guardGets_1 (by decide) (by decide) (by decide) (by decide) ?_
  refine lv_iconst (v := (-1)) hx hb dX11_guardGets_31 (by decide) ?_
  exact ziret hx hb hr (rfl) hlocks () (rfl) (trivial) hw [] rfl (rfl) hS (Nat.le_of_ble_eq_true rfl) (Nat.le_of_ble_eq_true rfl) dX11_guardGets_32

set_option maxHeartbeats 4000000 in
set_option maxRecDepth 100000 in
theorem c_tg2 (l : Launch) (D : va_G) (ct : Nat → ClassId) (r : Int32) (w : Int32)  : zC l yX11_travellerGets wsX11_travellerGets ({ frames := 1, cells := 0, slots := 0, locals := 80 }) D ct [] [.int r, .int w, .int 2] [] (S := Unit) (fun _ => some (.int 0)) (fun _ => True) (fun _ => []) 0 0 := by
  refine zofW cX11_travellerGets 3 (some .int) (by decide) rfl (Nat.le_of_ble_eq_true rfl) ?_
  intro p e s m below meth c A hx hb hr hml hts hown hlocks hname hK hA hZ hN H locs hw hS ls hl
  have hown : s.vm.findClass RX11 = some m.cls := hown
  have hl : lv_has ls 3 [(0, .int r), (1, .int w), (2, .int 2)] := hl
  refine lv_iload_n hx hb dX11_travellerGets_0 rfl (lv_at hl 2 rfl) ?_
  refine lv_lookup (off := 32) (tgt := 33) hx hb dX11_travellerGets_1 (by decide) (by decide) (by decide) ?_
  refine lv_iconst (v := 0) hx hb dX11_travellerGets_33 (by decide) ?_
  exact ziret hx hb hr (rfl) hlocks () (rfl) (trivial) hw [] rfl (rfl) hS (Nat.le_of_ble_eq_true rfl) (Nat.le_of_ble_eq_true rfl) dX11_travellerGets_34

set_option maxHeartbeats 4000000 in
set_option maxRecDepth 100000 in
theorem c_gg3 (l : Launch) (D : va_G) (ct : Nat → ClassId) (r : Int32) (w : Int32)  : zC l yX11_guardGets wsX11_guardGets ({ frames := 1, cells := 0, slots := 0, locals := 80 }) D ct [] [.int r, .int w, .int 3] [] (S := Unit) (fun _ => some (.int r)) (fun _ => True) (fun _ => []) 0 0 := by
  refine zofW cX11_guardGets 3 (some .int) (by decide) rfl (Nat.le_of_ble_eq_true rfl) ?_
  intro p e s m below meth c A hx hb hr hml hts hown hlocks hname hK hA hZ hN H locs hw hS ls hl
  have hown : s.vm.findClass RX11 = some m.cls := hown
  have hl : lv_has ls 3 [(0, .int r), (1, .int w), (2, .int 3)] := hl
  refine lv_iload_n hx hb dX11_guardGets_0 rfl (lv_at hl 2 rfl) ?_
  refine lv_tableIn (off := 32) (tgt := 33) hx hb dX11_guardGets_1 (by decide) (by decide) (by decide) (by decide) ?_
  refine lv_iload_n hx hb dX11_guardGets_33 rfl (lv_at hl 0 rfl) ?_
  exact ziret hx hb hr (rfl) hlocks () (rfl) (trivial) hw [] rfl (rfl) hS (Nat.le_of_ble_eq_true rfl) (Nat.le_of_ble_eq_true rfl) dX11_guardGets_34

set_option maxHeartbeats 4000000 in
set_option maxRecDepth 100000 in
theorem c_tg3 (l : Launch) (D : va_G) (ct : Nat → ClassId) (r : Int32) (w : Int32)  : zC l yX11_travellerGets wsX11_travellerGets ({ frames := 1, cells := 0, slots := 0, locals := 80 }) D ct [] [.int r, .int w, .int 3] [] (S := Unit) (fun _ => some (.int (-r))) (fun _ => True) (fun _ => []) 0 0 := by
  refine zofW cX11_travellerGets 3 (some .int) (by decide) rfl (Nat.le_of_ble_eq_true rfl) ?_
  intro p e s m below meth c A hx hb hr hml hts hown hlocks hname hK hA hZ hN H locs hw hS ls hl
  have hown : s.vm.findClass RX11 = some m.cls := hown
  have hl : lv_has ls 3 [(0, .int r), (1, .int w), (2, .int 3)] := hl
  refine lv_iload_n hx hb dX11_travellerGets_0 rfl (lv_at hl 2 rfl) ?_
  refine lv_lookup (off := 29) (tgt := 30) hx hb dX11_travellerGets_1 (by decide) (by decide) (by decide) ?_
  refine lv_iload_n hx hb dX11_travellerGets_30 rfl (lv_at hl 0 rfl) ?_
  refine lv_ineg hx hb dX11_travellerGets_31 ?_
  exact ziret hx hb hr (rfl) hlocks () (rfl) (trivial) hw [] rfl (rfl) hS (Nat.le_of_ble_eq_true rfl) (Nat.le_of_ble_eq_true rfl) dX11_travellerGets_32

set_option maxHeartbeats 4000000 in
set_option maxRecDepth 100000 in
theorem c_ar0 (l : Launch) (D : va_G) (ct : Nat → ClassId) (r : Int32) (w : Int32)  : zC l yX11_isAtRest wsX11_isAtRest ({ frames := 2, cells := 0, slots := 0, locals := 120 }) D ct [] [.int r, .int w, .int 0] [] (S := Unit) (fun _ => some (.int (zat0 w))) (fun _ => True) (fun _ => []) 0 0 := by
  refine zofW cX11_isAtRest 3 (some .boolean) (by decide) rfl (Nat.le_of_ble_eq_true rfl) ?_
  intro p e s m below meth c A hx hb hr hml hts hown hlocks hname hK hA hZ hN H locs hw hS ls hl
  have hown : s.vm.findClass RX11 = some m.cls := hown
  have hl : lv_has ls 3 [(0, .int r), (1, .int w), (2, .int 0)] := hl
  refine lv_iload_n hx hb dX11_isAtRest_0 rfl (lv_at hl 0 rfl) ?_
  refine lv_iload_n hx hb dX11_isAtRest_1 rfl (lv_at hl 1 rfl) ?_
  refine lv_iload_n hx hb dX11_isAtRest_2 rfl (lv_at hl 2 rfl) ?_
  refine lv_iconst (v := 2) hx hb dX11_isAtRest_3 (by decide) ?_
  refine lv_ixor hx hb dX11_isAtRest_4 ?_
  refine ztop (.int 2) (congrArg Value.int (by decide)) ?_
  refine scall0 (As := [.int r, .int w, .int 2]) (rest := []) ⟨hx, hb, hml, hown, hts⟩ (c_gg2 l D ct r w) (va_cwS 3 hts gX11_isAtRest_X11_guardGets rfl rfl rfl (by decide +kernel) ⟨Nat.le_of_ble_eq_true rfl, Nat.le_of_ble_eq_true rfl⟩) hw hS hA hK hN rfl rfl hl.1 rfl (Nat.le_of_ble_eq_true rfl) dX11_isAtRest_5 (fun _ H locs hp1 hw hS => ?_)
  have hw : zPD D A [] H := hw
  refine zfr 8 [.int (-1)] rfl rfl ?_
  refine lv_iload_n hx hb dX11_isAtRest_8 rfl (lv_at hl 0 rfl) ?_
  refine lv_iload_n hx hb dX11_isAtRest_9 rfl (lv_at hl 1 rfl) ?_
  refine lv_iload_n hx hb dX11_isAtRest_10 rfl (lv_at hl 2 rfl) ?_
  refine scall0 (As := [.int r, .int w, .int 0]) (rest := [.int (-1)]) ⟨hx, hb, hml, hown, hts⟩ (c_gg0 l D ct r w) (va_cwS 3 hts gX11_isAtRest_X11_guardGets rfl rfl rfl (by decide +kernel) ⟨Nat.le_of_ble_eq_true rfl, Nat.le_of_ble_eq_true rfl⟩) hw hS hA hK hN rfl rfl hl.1 rfl (Nat.le_of_ble_eq_true rfl) dX11_isAtRest_11 (fun _ H locs hp2 hw hS => ?_)
  have hw : zPD D A [] H := hw
  refine zfr 14 [.int 0, .int (-1)] rfl rfl ?_
  refine lv_icmp_gt (tgt := 38) hx hb dX11_isAtRest_14 (by decide) (fun h => absurd h (by decide)) (fun _ => ?_)
  refine lv_iload_n hx hb dX11_isAtRest_17 rfl (lv_at hl 0 rfl) ?_
  refine lv_iload_n hx hb dX11_isAtRest_18 rfl (lv_at hl 1 rfl) ?_
  refine lv_iload_n hx hb dX11_isAtRest_19 rfl (lv_at hl 2 rfl) ?_
  refine lv_iconst (v := 1) hx hb dX11_isAtRest_20 (by decide) ?_
  refine lv_ixor hx hb dX11_isAtRest_21 ?_
  refine ztop (.int 1) (congrArg Value.int (by decide)) ?_
  refine scall0 (As := [.int r, .int w, .int 1]) (rest := []) ⟨hx, hb, hml, hown, hts⟩ (c_tg1 l D ct r w) (va_cwS 3 hts gX11_isAtRest_X11_travellerGets rfl rfl rfl (by decide +kernel) ⟨Nat.le_of_ble_eq_true rfl, Nat.le_of_ble_eq_true rfl⟩) hw hS hA hK hN rfl rfl hl.1 rfl (Nat.le_of_ble_eq_true rfl) dX11_isAtRest_22 (fun _ H locs hp4 hw hS => ?_)
  have hw : zPD D A [] H := hw
  refine zfr 25 [.int w] rfl rfl ?_
  refine lv_iload_n hx hb dX11_isAtRest_25 rfl (lv_at hl 0 rfl) ?_
  refine lv_iload_n hx hb dX11_isAtRest_26 rfl (lv_at hl 1 rfl) ?_
  refine lv_iload_n hx hb dX11_isAtRest_27 rfl (lv_at hl 2 rfl) ?_
  refine scall0 (As := [.int r, .int w, .int 0]) (rest := [.int w]) ⟨hx, hb, hml, hown, hts⟩ (c_tg0 l D ct r w) (va_cwS 3 hts gX11_isAtRest_X11_travellerGets rfl rfl rfl (by decide +kernel) ⟨Nat.le_of_ble_eq_true rfl, Nat.le_of_ble_eq_true rfl⟩) hw hS hA hK hN rfl rfl hl.1 rfl (Nat.le_of_ble_eq_true rfl) dX11_isAtRest_28 (fun _ H locs hp5 hw hS => ?_)
  have hw : zPD D A [] H := hw
  refine zfr 31 [.int 0, .int w] rfl rfl ?_
  refine lv_icmp_gt (tgt := 38) hx hb dX11_isAtRest_31 (by decide) (fun c_6 => ?_) (fun c_6 => ?_)
  · refine lv_iconst (v := 0) hx hb dX11_isAtRest_38 (by decide) ?_
    exact ziret hx hb hr (rfl) hlocks () (by rw [zat0, if_neg (Int32.not_le.mpr c_6)]) (trivial) hw [] rfl (rfl) hS (Nat.le_of_ble_eq_true rfl) (Nat.le_of_ble_eq_true rfl) dX11_isAtRest_39
  · refine lv_iconst (v := 1) hx hb dX11_isAtRest_34 (by decide) ?_
    refine lv_goto (tgt := 39) hx hb dX11_isAtRest_35 (by decide) ?_
    exact ziret hx hb hr (rfl) hlocks () (by rw [zat0, if_pos (Int32.not_lt.mp c_6)]) (trivial) hw [] rfl (rfl) hS (Nat.le_of_ble_eq_true rfl) (Nat.le_of_ble_eq_true rfl) dX11_isAtRest_39

set_option maxHeartbeats 4000000 in
set_option maxRecDepth 100000 in
theorem c_ar1 (l : Launch) (D : va_G) (ct : Nat → ClassId) (r : Int32) (w : Int32)  : zC l yX11_isAtRest wsX11_isAtRest ({ frames := 2, cells := 0, slots := 0, locals := 120 }) D ct [] [.int r, .int w, .int 1] [] (S := Unit) (fun _ => some (.int (zat1 r w))) (fun _ => True) (fun _ => []) 0 0 := by
  refine zofW cX11_isAtRest 3 (some .boolean) (by decide) rfl (Nat.le_of_ble_eq_true rfl) ?_
  intro p e s m below meth c A hx hb hr hml hts hown hlocks hname hK hA hZ hN H locs hw hS ls hl
  have hown : s.vm.findClass RX11 = some m.cls := hown
  have hl : lv_has ls 3 [(0, .int r), (1, .int w), (2, .int 1)] := hl
  refine lv_iload_n hx hb dX11_isAtRest_0 rfl (lv_at hl 0 rfl) ?_
  refine lv_iload_n hx hb dX11_isAtRest_1 rfl (lv_at hl 1 rfl) ?_
  refine lv_iload_n hx hb dX11_isAtRest_2 rfl (lv_at hl 2 rfl) ?_
  refine lv_iconst (v := 2) hx hb dX11_isAtRest_3 (by decide) ?_
  refine lv_ixor hx hb dX11_isAtRest_4 ?_
  refine ztop (.int 3) (congrArg Value.int (by decide)) ?_
  refine scall0 (As := [.int r, .int w, .int 3]) (rest := []) ⟨hx, hb, hml, hown, hts⟩ (c_gg3 l D ct r w) (va_cwS 3 hts gX11_isAtRest_X11_guardGets rfl rfl rfl (by decide +kernel) ⟨Nat.le_of_ble_eq_true rfl, Nat.le_of_ble_eq_true rfl⟩) hw hS hA hK hN rfl rfl hl.1 rfl (Nat.le_of_ble_eq_true rfl) dX11_isAtRest_5 (fun _ H locs hp1 hw hS => ?_)
  have hw : zPD D A [] H := hw
  refine zfr 8 [.int r] rfl rfl ?_
  refine lv_iload_n hx hb dX11_isAtRest_8 rfl (lv_at hl 0 rfl) ?_
  refine lv_iload_n hx hb dX11_isAtRest_9 rfl (lv_at hl 1 rfl) ?_
  refine lv_iload_n hx hb dX11_isAtRest_10 rfl (lv_at hl 2 rfl) ?_
  refine scall0 (As := [.int r, .int w, .int 1]) (rest := [.int r]) ⟨hx, hb, hml, hown, hts⟩ (c_gg1 l D ct r w) (va_cwS 3 hts gX11_isAtRest_X11_guardGets rfl rfl rfl (by decide +kernel) ⟨Nat.le_of_ble_eq_true rfl, Nat.le_of_ble_eq_true rfl⟩) hw hS hA hK hN rfl rfl hl.1 rfl (Nat.le_of_ble_eq_true rfl) dX11_isAtRest_11 (fun _ H locs hp2 hw hS => ?_)
  have hw : zPD D A [] H := hw
  refine zfr 14 [.int (-w), .int r] rfl rfl ?_
  refine lv_icmp_gt (tgt := 38) hx hb dX11_isAtRest_14 (by decide) (fun c_3 => ?_) (fun c_3 => ?_)
  · refine lv_iconst (v := 0) hx hb dX11_isAtRest_38 (by decide) ?_
    exact ziret hx hb hr (rfl) hlocks () (by rw [zat1, if_pos c_3]) (trivial) hw [] rfl (rfl) hS (Nat.le_of_ble_eq_true rfl) (Nat.le_of_ble_eq_true rfl) dX11_isAtRest_39
  · refine lv_iload_n hx hb dX11_isAtRest_17 rfl (lv_at hl 0 rfl) ?_
    refine lv_iload_n hx hb dX11_isAtRest_18 rfl (lv_at hl 1 rfl) ?_
    refine lv_iload_n hx hb dX11_isAtRest_19 rfl (lv_at hl 2 rfl) ?_
    refine lv_iconst (v := 1) hx hb dX11_isAtRest_20 (by decide) ?_
    refine lv_ixor hx hb dX11_isAtRest_21 ?_
    refine ztop (.int 0) (congrArg Value.int (by decide)) ?_
    refine scall0 (As := [.int r, .int w, .int 0]) (rest := []) ⟨hx, hb, hml, hown, hts⟩ (c_tg0 l D ct r w) (va_cwS 3 hts gX11_isAtRest_X11_travellerGets rfl rfl rfl (by decide +kernel) ⟨Nat.le_of_ble_eq_true rfl, Nat.le_of_ble_eq_true rfl⟩) hw hS hA hK hN rfl rfl hl.1 rfl (Nat.le_of_ble_eq_true rfl) dX11_isAtRest_22 (fun _ H locs hp4 hw hS => ?_)
    have hw : zPD D A [] H := hw
    refine zfr 25 [.int 0] rfl rfl ?_
    refine lv_iload_n hx hb dX11_isAtRest_25 rfl (lv_at hl 0 rfl) ?_
    refine lv_iload_n hx hb dX11_isAtRest_26 rfl (lv_at hl 1 rfl) ?_
    refine lv_iload_n hx hb dX11_isAtRest_27 rfl (lv_at hl 2 rfl) ?_
    refine scall0 (As := [.int r, .int w, .int 1]) (rest := [.int 0]) ⟨hx, hb, hml, hown, hts⟩ (c_tg1 l D ct r w) (va_cwS 3 hts gX11_isAtRest_X11_travellerGets rfl rfl rfl (by decide +kernel) ⟨Nat.le_of_ble_eq_true rfl, Nat.le_of_ble_eq_true rfl⟩) hw hS hA hK hN rfl rfl hl.1 rfl (Nat.le_of_ble_eq_true rfl) dX11_isAtRest_28 (fun _ H locs hp5 hw hS => ?_)
    have hw : zPD D A [] H := hw
    refine zfr 31 [.int w, .int 0] rfl rfl ?_
    refine lv_icmp_gt (tgt := 38) hx hb dX11_isAtRest_31 (by decide) (fun c_6 => ?_) (fun c_6 => ?_)
    · refine lv_iconst (v := 0) hx hb dX11_isAtRest_38 (by decide) ?_
      exact ziret hx hb hr (rfl) hlocks () (by rw [zat1, if_neg c_3, if_neg (Int32.not_le.mpr c_6)]) (trivial) hw [] rfl (rfl) hS (Nat.le_of_ble_eq_true rfl) (Nat.le_of_ble_eq_true rfl) dX11_isAtRest_39
    · refine lv_iconst (v := 1) hx hb dX11_isAtRest_34 (by decide) ?_
      refine lv_goto (tgt := 39) hx hb dX11_isAtRest_35 (by decide) ?_
      exact ziret hx hb hr (rfl) hlocks () (by rw [zat1, if_neg c_3, if_pos (Int32.not_lt.mp c_6)]) (trivial) hw [] rfl (rfl) hS (Nat.le_of_ble_eq_true rfl) (Nat.le_of_ble_eq_true rfl) dX11_isAtRest_39

set_option maxHeartbeats 4000000 in
set_option maxRecDepth 100000 in
theorem c_ar2 (l : Launch) (D : va_G) (ct : Nat → ClassId) (r : Int32) (w : Int32)  : zC l yX11_isAtRest wsX11_isAtRest ({ frames := 2, cells := 0, slots := 0, locals := 120 }) D ct [] [.int r, .int w, .int 2] [] (S := Unit) (fun _ => some (.int 0)) (fun _ => True) (fun _ => []) 0 0 := by
  refine zofW cX11_isAtRest 3 (some .boolean) (by decide) rfl (Nat.le_of_ble_eq_true rfl) ?_
  intro p e s m below meth c A hx hb hr hml hts hown hlocks hname hK hA hZ hN H locs hw hS ls hl
  have hown : s.vm.findClass RX11 = some m.cls := hown
  have hl : lv_has ls 3 [(0, .int r), (1, .int w), (2, .int 2)] := hl
  refine lv_iload_n hx hb dX11_isAtRest_0 rfl (lv_at hl 0 rfl) ?_
  refine lv_iload_n hx hb dX11_isAtRest_1 rfl (lv_at hl 1 rfl) ?_
  refine lv_iload_n hx hb dX11_isAtRest_2 rfl (lv_at hl 2 rfl) ?_
  refine lv_iconst (v := 2) hx hb dX11_isAtRest_3 (by decide) ?_
  refine lv_ixor hx hb dX11_isAtRest_4 ?_
  refine ztop (.int 0) (congrArg Value.int (by decide)) ?_
  refine scall0 (As := [.int r, .int w, .int 0]) (rest := []) ⟨hx, hb, hml, hown, hts⟩ (c_gg0 l D ct r w) (va_cwS 3 hts gX11_isAtRest_X11_guardGets rfl rfl rfl (by decide +kernel) ⟨Nat.le_of_ble_eq_true rfl, Nat.le_of_ble_eq_true rfl⟩) hw hS hA hK hN rfl rfl hl.1 rfl (Nat.le_of_ble_eq_true rfl) dX11_isAtRest_5 (fun _ H locs hp1 hw hS => ?_)
  have hw : zPD D A [] H := hw
  refine zfr 8 [.int 0] rfl rfl ?_
  refine lv_iload_n hx hb dX11_isAtRest_8 rfl (lv_at hl 0 rfl) ?_
  refine lv_iload_n hx hb dX11_isAtRest_9 rfl (lv_at hl 1 rfl) ?_
  refine lv_iload_n hx hb dX11_isAtRest_10 rfl (lv_at hl 2 rfl) ?_
  refine scall0 (As := [.int r, .int w, .int 2]) (rest := [.int 0]) ⟨hx, hb, hml, hown, hts⟩ (c_gg2 l D ct r w) (va_cwS 3 hts gX11_isAtRest_X11_guardGets rfl rfl rfl (by decide +kernel) ⟨Nat.le_of_ble_eq_true rfl, Nat.le_of_ble_eq_true rfl⟩) hw hS hA hK hN rfl rfl hl.1 rfl (Nat.le_of_ble_eq_true rfl) dX11_isAtRest_11 (fun _ H locs hp2 hw hS => ?_)
  have hw : zPD D A [] H := hw
  refine zfr 14 [.int (-1), .int 0] rfl rfl ?_
  refine lv_icmp_gt (tgt := 38) hx hb dX11_isAtRest_14 (by decide) (fun _ => ?_) (fun h => absurd (by decide) h)
  refine lv_iconst (v := 0) hx hb dX11_isAtRest_38 (by decide) ?_
  exact ziret hx hb hr (rfl) hlocks () (rfl) (trivial) hw [] rfl (rfl) hS (Nat.le_of_ble_eq_true rfl) (Nat.le_of_ble_eq_true rfl) dX11_isAtRest_39

set_option maxHeartbeats 4000000 in
set_option maxRecDepth 100000 in
theorem c_ar3 (l : Launch) (D : va_G) (ct : Nat → ClassId) (r : Int32) (w : Int32)  : zC l yX11_isAtRest wsX11_isAtRest ({ frames := 2, cells := 0, slots := 0, locals := 120 }) D ct [] [.int r, .int w, .int 3] [] (S := Unit) (fun _ => some (.int (zat3 r w))) (fun _ => True) (fun _ => []) 0 0 := by
  refine zofW cX11_isAtRest 3 (some .boolean) (by decide) rfl (Nat.le_of_ble_eq_true rfl) ?_
  intro p e s m below meth c A hx hb hr hml hts hown hlocks hname hK hA hZ hN H locs hw hS ls hl
  have hown : s.vm.findClass RX11 = some m.cls := hown
  have hl : lv_has ls 3 [(0, .int r), (1, .int w), (2, .int 3)] := hl
  refine lv_iload_n hx hb dX11_isAtRest_0 rfl (lv_at hl 0 rfl) ?_
  refine lv_iload_n hx hb dX11_isAtRest_1 rfl (lv_at hl 1 rfl) ?_
  refine lv_iload_n hx hb dX11_isAtRest_2 rfl (lv_at hl 2 rfl) ?_
  refine lv_iconst (v := 2) hx hb dX11_isAtRest_3 (by decide) ?_
  refine lv_ixor hx hb dX11_isAtRest_4 ?_
  refine ztop (.int 1) (congrArg Value.int (by decide)) ?_
  refine scall0 (As := [.int r, .int w, .int 1]) (rest := []) ⟨hx, hb, hml, hown, hts⟩ (c_gg1 l D ct r w) (va_cwS 3 hts gX11_isAtRest_X11_guardGets rfl rfl rfl (by decide +kernel) ⟨Nat.le_of_ble_eq_true rfl, Nat.le_of_ble_eq_true rfl⟩) hw hS hA hK hN rfl rfl hl.1 rfl (Nat.le_of_ble_eq_true rfl) dX11_isAtRest_5 (fun _ H locs hp1 hw hS => ?_)
  have hw : zPD D A [] H := hw
  refine zfr 8 [.int (-w)] rfl rfl ?_
  refine lv_iload_n hx hb dX11_isAtRest_8 rfl (lv_at hl 0 rfl) ?_
  refine lv_iload_n hx hb dX11_isAtRest_9 rfl (lv_at hl 1 rfl) ?_
  refine lv_iload_n hx hb dX11_isAtRest_10 rfl (lv_at hl 2 rfl) ?_
  refine scall0 (As := [.int r, .int w, .int 3]) (rest := [.int (-w)]) ⟨hx, hb, hml, hown, hts⟩ (c_gg3 l D ct r w) (va_cwS 3 hts gX11_isAtRest_X11_guardGets rfl rfl rfl (by decide +kernel) ⟨Nat.le_of_ble_eq_true rfl, Nat.le_of_ble_eq_true rfl⟩) hw hS hA hK hN rfl rfl hl.1 rfl (Nat.le_of_ble_eq_true rfl) dX11_isAtRest_11 (fun _ H locs hp2 hw hS => ?_)
  have hw : zPD D A [] H := hw
  refine zfr 14 [.int r, .int (-w)] rfl rfl ?_
  refine lv_icmp_gt (tgt := 38) hx hb dX11_isAtRest_14 (by decide) (fun c_3 => ?_) (fun c_3 => ?_)
  · refine lv_iconst (v := 0) hx hb dX11_isAtRest_38 (by decide) ?_
    exact ziret hx hb hr (rfl) hlocks () (by rw [zat3, if_pos c_3]) (trivial) hw [] rfl (rfl) hS (Nat.le_of_ble_eq_true rfl) (Nat.le_of_ble_eq_true rfl) dX11_isAtRest_39
  · refine lv_iload_n hx hb dX11_isAtRest_17 rfl (lv_at hl 0 rfl) ?_
    refine lv_iload_n hx hb dX11_isAtRest_18 rfl (lv_at hl 1 rfl) ?_
    refine lv_iload_n hx hb dX11_isAtRest_19 rfl (lv_at hl 2 rfl) ?_
    refine lv_iconst (v := 1) hx hb dX11_isAtRest_20 (by decide) ?_
    refine lv_ixor hx hb dX11_isAtRest_21 ?_
    refine ztop (.int 2) (congrArg Value.int (by decide)) ?_
    refine scall0 (As := [.int r, .int w, .int 2]) (rest := []) ⟨hx, hb, hml, hown, hts⟩ (c_tg2 l D ct r w) (va_cwS 3 hts gX11_isAtRest_X11_travellerGets rfl rfl rfl (by decide +kernel) ⟨Nat.le_of_ble_eq_true rfl, Nat.le_of_ble_eq_true rfl⟩) hw hS hA hK hN rfl rfl hl.1 rfl (Nat.le_of_ble_eq_true rfl) dX11_isAtRest_22 (fun _ H locs hp4 hw hS => ?_)
    have hw : zPD D A [] H := hw
    refine zfr 25 [.int 0] rfl rfl ?_
    refine lv_iload_n hx hb dX11_isAtRest_25 rfl (lv_at hl 0 rfl) ?_
    refine lv_iload_n hx hb dX11_isAtRest_26 rfl (lv_at hl 1 rfl) ?_
    refine lv_iload_n hx hb dX11_isAtRest_27 rfl (lv_at hl 2 rfl) ?_
    refine scall0 (As := [.int r, .int w, .int 3]) (rest := [.int 0]) ⟨hx, hb, hml, hown, hts⟩ (c_tg3 l D ct r w) (va_cwS 3 hts gX11_isAtRest_X11_travellerGets rfl rfl rfl (by decide +kernel) ⟨Nat.le_of_ble_eq_true rfl, Nat.le_of_ble_eq_true rfl⟩) hw hS hA hK hN rfl rfl hl.1 rfl (Nat.le_of_ble_eq_true rfl) dX11_isAtRest_28 (fun _ H locs hp5 hw hS => ?_)
    have hw : zPD D A [] H := hw
    refine zfr 31 [.int (-r), .int 0] rfl rfl ?_
    refine lv_icmp_gt (tgt := 38) hx hb dX11_isAtRest_31 (by decide) (fun c_6 => ?_) (fun c_6 => ?_)
    · refine lv_iconst (v := 0) hx hb dX11_isAtRest_38 (by decide) ?_
      exact ziret hx hb hr (rfl) hlocks () (by rw [zat3, if_neg c_3, if_neg (Int32.not_le.mpr c_6)]) (trivial) hw [] rfl (rfl) hS (Nat.le_of_ble_eq_true rfl) (Nat.le_of_ble_eq_true rfl) dX11_isAtRest_39
    · refine lv_iconst (v := 1) hx hb dX11_isAtRest_34 (by decide) ?_
      refine lv_goto (tgt := 39) hx hb dX11_isAtRest_35 (by decide) ?_
      exact ziret hx hb hr (rfl) hlocks () (by rw [zat3, if_neg c_3, if_pos (Int32.not_lt.mp c_6)]) (trivial) hw [] rfl (rfl) hS (Nat.le_of_ble_eq_true rfl) (Nat.le_of_ble_eq_true rfl) dX11_isAtRest_39

set_option maxHeartbeats 4000000 in
set_option maxRecDepth 100000 in
theorem c_mg00 (l : Launch) (D : va_G) (ct : Nat → ClassId) (r : Int32) (w : Int32)  : zC l yX12_guardGets wsX12_guardGets ({ frames := 1, cells := 0, slots := 0, locals := 80 }) D ct [] [.int r, .int w, .int 0, .int 0] [] (S := Unit) (fun _ => some (.int 0)) (fun _ => True) (fun _ => []) 0 0 := by
  refine zofW cX12_guardGets 4 (some .int) (by decide) rfl (Nat.le_of_ble_eq_true rfl) ?_
  intro p e s m below meth c A hx hb hr hml hts hown hlocks hname hK hA hZ hN H locs hw hS ls hl
  have hown : s.vm.findClass RX12 = some m.cls := hown
  have hl : lv_has ls 4 [(0, .int r), (1, .int w), (2, .int 0), (3, .int 0)] := hl
  refine lv_iload_n hx hb dX12_guardGets_0 rfl (lv_at hl 3 rfl) ?_
  refine lv_iconst (v := 1) hx hb dX12_guardGets_1 (by decide) ?_
  refine lv_icmp_ne (tgt := 19) hx hb dX12_guardGets_2 (by decide) (fun _ => ?_) (fun h => absurd h (by decide))
  refine lv_iload_n hx hb dX12_guardGets_19 rfl (lv_at hl 2 rfl) ?_
  refine lv_iconst (v := 1) hx hb dX12_guardGets_20 (by decide) ?_
  refine lv_icmp_ne (tgt := 28) hx hb dX12_guardGets_21 (by decide) (fun _ => ?_) (fun h => absurd h (by decide))
  refine lv_iconst (v := 0) hx hb dX12_guardGets_28 (by decide) ?_
  exact ziret hx hb hr (rfl) hlocks () (rfl) (trivial) hw [] rfl (rfl) hS (Nat.le_of_ble_eq_true rfl) (Nat.le_of_ble_eq_true rfl) dX12_guardGets_29

set_option maxHeartbeats 4000000 in
set_option maxRecDepth 100000 in
theorem c_mt00 (l : Launch) (D : va_G) (ct : Nat → ClassId) (r : Int32) (w : Int32)  : zC l yX12_travellerGets wsX12_travellerGets ({ frames := 1, cells := 0, slots := 0, locals := 80 }) D ct [] [.int r, .int w, .int 0, .int 0] [] (S := Unit) (fun _ => some (.int 0)) (fun _ => True) (fun _ => []) 0 0 := by
  refine zofW cX12_travellerGets 4 (some .int) (by decide) rfl (Nat.le_of_ble_eq_true rfl) ?_
  intro p e s m below meth c A hx hb hr hml hts hown hlocks hname hK hA hZ hN H locs hw hS ls hl
  have hown : s.vm.findClass RX12 = some m.cls := hown
  have hl : lv_has ls 4 [(0, .int r), (1, .int w), (2, .int 0), (3, .int 0)] := hl
  refine lv_iload_n hx hb dX12_travellerGets_0 rfl (lv_at hl 3 rfl) ?_
  refine lv_if_ne (tgt := 8) hx hb dX12_travellerGets_1 (by decide) (fun h => absurd (by decide) h) (fun _ => ?_)
  refine lv_iconst (v := 0) hx hb dX12_travellerGets_4 (by decide) ?_
  refine lv_goto (tgt := 19) hx hb dX12_travellerGets_5 (by decide) ?_
  exact ziret hx hb hr (rfl) hlocks () (rfl) (trivial) hw [] rfl (rfl) hS (Nat.le_of_ble_eq_true rfl) (Nat.le_of_ble_eq_true rfl) dX12_travellerGets_19

set_option maxHeartbeats 4000000 in
set_option maxRecDepth 100000 in
theorem c_mg10 (l : Launch) (D : va_G) (ct : Nat → ClassId) (r : Int32) (w : Int32)  : zC l yX12_guardGets wsX12_guardGets ({ frames := 1, cells := 0, slots := 0, locals := 80 }) D ct [] [.int r, .int w, .int 1, .int 0] [] (S := Unit) (fun _ => some (.int (-1))) (fun _ => True) (fun _ => []) 0 0 := by
  refine zofW cX12_guardGets 4 (some .int) (by decide) rfl (Nat.le_of_ble_eq_true rfl) ?_
  intro p e s m below meth c A hx hb hr hml hts hown hlocks hname hK hA hZ hN H locs hw hS ls hl
  have hown : s.vm.findClass RX12 = some m.cls := hown
  have hl : lv_has ls 4 [(0, .int r), (1, .int w), (2, .int 1), (3, .int 0)] := hl
  refine lv_iload_n hx hb dX12_guardGets_0 rfl (lv_at hl 3 rfl) ?_
  refine lv_iconst (v := 1) hx hb dX12_guardGets_1 (by decide) ?_
  refine lv_icmp_ne (tgt := 19) hx hb dX12_guardGets_2 (by decide) (fun _ => ?_) (fun h => absurd h (by decide))
  refine lv_iload_n hx hb dX12_guardGets_19 rfl (lv_at hl 2 rfl) ?_
  refine lv_iconst (v := 1) hx hb dX12_guardGets_20 (by decide) ?_
  refine lv_icmp_ne (tgt := 28) hx hb dX12_guardGets_21 (by decide) (fun h => absurd (by decide) h) (fun _ => ?_)
  refine lv_iconst (v := (-1)) hx hb dX12_guardGets_24 (by decide) ?_
  refine lv_goto (tgt := 29) hx hb dX12_guardGets_25 (by decide) ?_
  exact ziret hx hb hr (rfl) hlocks () (rfl) (trivial) hw [] rfl (rfl) hS (Nat.le_of_ble_eq_true rfl) (Nat.le_of_ble_eq_true rfl) dX12_guardGets_29

set_option maxHeartbeats 4000000 in
set_option maxRecDepth 100000 in
theorem c_mt10 (l : Launch) (D : va_G) (ct : Nat → ClassId) (r : Int32) (w : Int32)  : zC l yX12_travellerGets wsX12_travellerGets ({ frames := 1, cells := 0, slots := 0, locals := 80 }) D ct [] [.int r, .int w, .int 1, .int 0] [] (S := Unit) (fun _ => some (.int 0)) (fun _ => True) (fun _ => []) 0 0 := by
  refine zofW cX12_travellerGets 4 (some .int) (by decide) rfl (Nat.le_of_ble_eq_true rfl) ?_
  intro p e s m below meth c A hx hb hr hml hts hown hlocks hname hK hA hZ hN H locs hw hS ls hl
  have hown : s.vm.findClass RX12 = some m.cls := hown
  have hl : lv_has ls 4 [(0, .int r), (1, .int w), (2, .int 1), (3, .int 0)] := hl
  refine lv_iload_n hx hb dX12_travellerGets_0 rfl (lv_at hl 3 rfl) ?_
  refine lv_if_ne (tgt := 8) hx hb dX12_travellerGets_1 (by decide) (fun h => absurd (by decide) h) (fun _ => ?_)
  refine lv_iconst (v := 0) hx hb dX12_travellerGets_4 (by decide) ?_
  refine lv_goto (tgt := 19) hx hb dX12_travellerGets_5 (by decide) ?_
  exact ziret hx hb hr (rfl) hlocks () (rfl) (trivial) hw [] rfl (rfl) hS (Nat.le_of_ble_eq_true rfl) (Nat.le_of_ble_eq_true rfl) dX12_travellerGets_19

set_option maxHeartbeats 4000000 in
set_option maxRecDepth 100000 in
theorem c_mg01 (l : Launch) (D : va_G) (ct : Nat → ClassId) (r : Int32) (w : Int32)  : zC l yX12_guardGets wsX12_guardGets ({ frames := 1, cells := 0, slots := 0, locals := 80 }) D ct [] [.int r, .int w, .int 0, .int 1] [] (S := Unit) (fun _ => some (.int (-w))) (fun _ => True) (fun _ => []) 0 0 := by
  refine zofW cX12_guardGets 4 (some .int) (by decide) rfl (Nat.le_of_ble_eq_true rfl) ?_
  intro p e s m below meth c A hx hb hr hml hts hown hlocks hname hK hA hZ hN H locs hw hS ls hl
  have hown : s.vm.findClass RX12 = some m.cls := hown
  have hl : lv_has ls 4 [(0, .int r), (1, .int w), (2, .int 0), (3, .int 1)] := hl
  refine lv_iload_n hx hb dX12_guardGets_0 rfl (lv_at hl 3 rfl) ?_
  refine lv_iconst (v := 1) hx hb dX12_guardGets_1 (by decide) ?_
  refine lv_icmp_ne (tgt := 19) hx hb dX12_guardGets_2 (by decide) (fun h => absurd (by decide) h) (fun _ => ?_)
  refine lv_iload_n hx hb dX12_guardGets_5 rfl (lv_at hl 2 rfl) ?_
  refine lv_iconst (v := 1) hx hb dX12_guardGets_6 (by decide) ?_
  refine lv_icmp_ne (tgt := 14) hx hb dX12_guardGets_7 (by decide) (fun _ => ?_) (fun h => absurd h (by decide))
  refine lv_iload_n hx hb dX12_guardGets_14 rfl (lv_at hl 1 rfl) ?_
  refine lv_ineg hx hb dX12_guardGets_15 ?_
  refine lv_goto (tgt := 29) hx hb dX12_guardGets_16 (by decide) ?_
  exact ziret hx hb hr (rfl) hlocks () (rfl) (trivial) hw [] rfl (rfl) hS (Nat.le_of_ble_eq_true rfl) (Nat.le_of_ble_eq_true rfl) dX12_guardGets_29

set_option maxHeartbeats 4000000 in
set_option maxRecDepth 100000 in
theorem c_mt01 (l : Launch) (D : va_G) (ct : Nat → ClassId) (r : Int32) (w : Int32)  : zC l yX12_travellerGets wsX12_travellerGets ({ frames := 1, cells := 0, slots := 0, locals := 80 }) D ct [] [.int r, .int w, .int 0, .int 1] [] (S := Unit) (fun _ => some (.int w)) (fun _ => True) (fun _ => []) 0 0 := by
  refine zofW cX12_travellerGets 4 (some .int) (by decide) rfl (Nat.le_of_ble_eq_true rfl) ?_
  intro p e s m below meth c A hx hb hr hml hts hown hlocks hname hK hA hZ hN H locs hw hS ls hl
  have hown : s.vm.findClass RX12 = some m.cls := hown
  have hl : lv_has ls 4 [(0, .int r), (1, .int w), (2, .int 0), (3, .int 1)] := hl
  refine lv_iload_n hx hb dX12_travellerGets_0 rfl (lv_at hl 3 rfl) ?_
  refine lv_if_ne (tgt := 8) hx hb dX12_travellerGets_1 (by decide) (fun _ => ?_) (fun h => absurd h (by decide))
  refine lv_iload_n hx hb dX12_travellerGets_8 rfl (lv_at hl 2 rfl) ?_
  refine lv_iconst (v := 1) hx hb dX12_travellerGets_9 (by decide) ?_
  refine lv_icmp_ne (tgt := 18) hx hb dX12_travellerGets_10 (by decide) (fun _ => ?_) (fun h => absurd h (by decide))
  refine lv_iload_n hx hb dX12_travellerGets_18 rfl (lv_at hl 1 rfl) ?_
  exact ziret hx hb hr (rfl) hlocks () (rfl) (trivial) hw [] rfl (rfl) hS (Nat.le_of_ble_eq_true rfl) (Nat.le_of_ble_eq_true rfl) dX12_travellerGets_19

set_option maxHeartbeats 4000000 in
set_option maxRecDepth 100000 in
theorem c_mg11 (l : Launch) (D : va_G) (ct : Nat → ClassId) (r : Int32) (w : Int32)  : zC l yX12_guardGets wsX12_guardGets ({ frames := 1, cells := 0, slots := 0, locals := 80 }) D ct [] [.int r, .int w, .int 1, .int 1] [] (S := Unit) (fun _ => some (.int r)) (fun _ => True) (fun _ => []) 0 0 := by
  refine zofW cX12_guardGets 4 (some .int) (by decide) rfl (Nat.le_of_ble_eq_true rfl) ?_
  intro p e s m below meth c A hx hb hr hml hts hown hlocks hname hK hA hZ hN H locs hw hS ls hl
  have hown : s.vm.findClass RX12 = some m.cls := hown
  have hl : lv_has ls 4 [(0, .int r), (1, .int w), (2, .int 1), (3, .int 1)] := hl
  refine lv_iload_n hx hb dX12_guardGets_0 rfl (lv_at hl 3 rfl) ?_
  refine lv_iconst (v := 1) hx hb dX12_guardGets_1 (by decide) ?_
  refine lv_icmp_ne (tgt := 19) hx hb dX12_guardGets_2 (by decide) (fun h => absurd (by decide) h) (fun _ => ?_)
  refine lv_iload_n hx hb dX12_guardGets_5 rfl (lv_at hl 2 rfl) ?_
  refine lv_iconst (v := 1) hx hb dX12_guardGets_6 (by decide) ?_
  refine lv_icmp_ne (tgt := 14) hx hb dX12_guardGets_7 (by decide) (fun h => absurd (by decide) h) (fun _ => ?_)
  refine lv_iload_n hx hb dX12_guardGets_10 rfl (lv_at hl 0 rfl) ?_
  refine lv_goto (tgt := 29) hx hb dX12_guardGets_11 (by decide) ?_
  exact ziret hx hb hr (rfl) hlocks () (rfl) (trivial) hw [] rfl (rfl) hS (Nat.le_of_ble_eq_true rfl) (Nat.le_of_ble_eq_true rfl) dX12_guardGets_29

set_option maxHeartbeats 4000000 in
set_option maxRecDepth 100000 in
theorem c_mt11 (l : Launch) (D : va_G) (ct : Nat → ClassId) (r : Int32) (w : Int32)  : zC l yX12_travellerGets wsX12_travellerGets ({ frames := 1, cells := 0, slots := 0, locals := 80 }) D ct [] [.int r, .int w, .int 1, .int 1] [] (S := Unit) (fun _ => some (.int (-r))) (fun _ => True) (fun _ => []) 0 0 := by
  refine zofW cX12_travellerGets 4 (some .int) (by decide) rfl (Nat.le_of_ble_eq_true rfl) ?_
  intro p e s m below meth c A hx hb hr hml hts hown hlocks hname hK hA hZ hN H locs hw hS ls hl
  have hown : s.vm.findClass RX12 = some m.cls := hown
  have hl : lv_has ls 4 [(0, .int r), (1, .int w), (2, .int 1), (3, .int 1)] := hl
  refine lv_iload_n hx hb dX12_travellerGets_0 rfl (lv_at hl 3 rfl) ?_
  refine lv_if_ne (tgt := 8) hx hb dX12_travellerGets_1 (by decide) (fun _ => ?_) (fun h => absurd h (by decide))
  refine lv_iload_n hx hb dX12_travellerGets_8 rfl (lv_at hl 2 rfl) ?_
  refine lv_iconst (v := 1) hx hb dX12_travellerGets_9 (by decide) ?_
  refine lv_icmp_ne (tgt := 18) hx hb dX12_travellerGets_10 (by decide) (fun h => absurd (by decide) h) (fun _ => ?_)
  refine lv_iload_n hx hb dX12_travellerGets_13 rfl (lv_at hl 0 rfl) ?_
  refine lv_ineg hx hb dX12_travellerGets_14 ?_
  refine lv_goto (tgt := 19) hx hb dX12_travellerGets_15 (by decide) ?_
  exact ziret hx hb hr (rfl) hlocks () (rfl) (trivial) hw [] rfl (rfl) hS (Nat.le_of_ble_eq_true rfl) (Nat.le_of_ble_eq_true rfl) dX12_travellerGets_19

set_option maxHeartbeats 4000000 in
set_option maxRecDepth 100000 in
/-- rests -/
theorem r_rests (l : Launch) (D : va_G) (ct : Nat → ClassId) (h0 : Nat) (y : Nat → Nat) (w_thrown : Int32) (w_taped : Int32) (w_size : Int32) (w_place : Int32) (w_begin : Int32) (w_token : Int32) (w_word : Int64) (w_told : Int32) (w_wrong : Int32) (w_code : Int32) (w_toldLines : Int32) (w_given : Int32) (w_fresh : Int64) (w_done : Int32) (w_moreAsked : Int32) (w_g : Int64) (w_gone : Int32) (w_stopped : Int32) (p1 : Int32) (p2 : Int32) (p3 : Int32)  : zC l yX12_rests wsX12_rests ({ frames := 2, cells := 0, slots := 0, locals := 120 }) D ct [] [.ref h0, .int p1, .int p2, .int p3] [(h0, .inr (11, [.int w_thrown, .int w_taped, .ref (y 0), .int w_size, .int w_place, .int w_begin, .int w_token, .long w_word, .int w_told, .int w_wrong, .ref (y 1), .ref (y 2), .ref (y 3), .ref (y 4), .ref (y 5), .ref (y 6), .ref (y 7), .ref (y 8), .ref (y 9), .ref (y 10), .ref (y 11), .ref (y 12), .int w_code, .int w_toldLines, .ref (y 13), .ref (y 14), .ref (y 15), .ref (y 16), .ref (y 17), .ref (y 18), .ref (y 19), .ref (y 20), .ref (y 21), .ref (y 22), .ref (y 23), .ref (y 24), .int w_given, .long w_fresh, .ref (y 25), .ref (y 26), .ref (y 27), .ref (y 28), .ref (y 29), .ref (y 30), .ref (y 31), .ref (y 32), .ref (y 33), .ref (y 34), .ref (y 35), .ref (y 36), .ref (y 37), .int w_done, .int w_moreAsked, .ref (y 38), .long w_g, .int w_gone, .int w_stopped]))] (S := Unit) (fun _ => some (.int (zrv p1 p2 p3))) (fun _ => True) (fun _ => [(h0, .inr (11, [.int (zth p1 p2 p3), .int w_taped, .ref (y 0), .int w_size, .int w_place, .int w_begin, .int w_token, .long w_word, .int w_told, .int w_wrong, .ref (y 1), .ref (y 2), .ref (y 3), .ref (y 4), .ref (y 5), .ref (y 6), .ref (y 7), .ref (y 8), .ref (y 9), .ref (y 10), .ref (y 11), .ref (y 12), .int w_code, .int w_toldLines, .ref (y 13), .ref (y 14), .ref (y 15), .ref (y 16), .ref (y 17), .ref (y 18), .ref (y 19), .ref (y 20), .ref (y 21), .ref (y 22), .ref (y 23), .ref (y 24), .int w_given, .long w_fresh, .ref (y 25), .ref (y 26), .ref (y 27), .ref (y 28), .ref (y 29), .ref (y 30), .ref (y 31), .ref (y 32), .ref (y 33), .ref (y 34), .ref (y 35), .ref (y 36), .ref (y 37), .int w_done, .int w_moreAsked, .ref (y 38), .long w_g, .int w_gone, .int w_stopped]))]) 0 0 := by
  refine zofW cX12_rests 8 (some .int) (by decide) rfl (Nat.le_of_ble_eq_true rfl) ?_
  intro p e s m below meth c A hx hb hr hml hts hown hlocks hname hK hA hZ hN H locs hw hS ls hl
  have hown : s.vm.findClass RX12 = some m.cls := hown
  have hl : lv_has ls 8 [(0, .ref h0), (1, .int p1), (2, .int p2), (3, .int p3)] := hl
  have hiX12 : ∀ w ∈ wsX120, w ∈ wsX12_rests := by decide +kernel
  refine lv_aload_n hx hb dX12_rests_0 rfl (lv_at hl 0 rfl) ?_
  refine lv_iload_n hx hb dX12_rests_1 rfl (lv_at hl 1 rfl) ?_
  refine lv_iconst (v := 0) hx hb dX12_rests_2 (by decide) ?_
  refine lv_bipush (v := 9) hx hb dX12_rests_3 (by decide) ?_
  refine scall0 (As := [.int p1, .int 0, .int 9]) (rest := [.ref h0]) ⟨hx, hb, hml, hown, hts⟩ (c_within l D ct p1 0 9) (va_cwS 3 hts gX12_rests_X12_within rfl rfl rfl (by decide +kernel) ⟨Nat.le_of_ble_eq_true rfl, Nat.le_of_ble_eq_true rfl⟩) hw hS hA hK hN rfl rfl hl.1 rfl (Nat.le_of_ble_eq_true rfl) dX12_rests_5 (fun _ H locs hp1 hw hS => ?_)
  have hw : zPD D A [(h0, .inr (11, [.int w_thrown, .int w_taped, .ref (y 0), .int w_size, .int w_place, .int w_begin, .int w_token, .long w_word, .int w_told, .int w_wrong, .ref (y 1), .ref (y 2), .ref (y 3), .ref (y 4), .ref (y 5), .ref (y 6), .ref (y 7), .ref (y 8), .ref (y 9), .ref (y 10), .ref (y 11), .ref (y 12), .int w_code, .int w_toldLines, .ref (y 13), .ref (y 14), .ref (y 15), .ref (y 16), .ref (y 17), .ref (y 18), .ref (y 19), .ref (y 20), .ref (y 21), .ref (y 22), .ref (y 23), .ref (y 24), .int w_given, .long w_fresh, .ref (y 25), .ref (y 26), .ref (y 27), .ref (y 28), .ref (y 29), .ref (y 30), .ref (y 31), .ref (y 32), .ref (y 33), .ref (y 34), .ref (y 35), .ref (y 36), .ref (y 37), .int w_done, .int w_moreAsked, .ref (y 38), .long w_g, .int w_gone, .int w_stopped]))] H := hw
  refine zfr 8 [.int (zwi p1 0 9), .ref h0] rfl rfl ?_
  refine lv_if_eq (tgt := 30) hx hb dX12_rests_8 (by decide) (fun c_2 => ?_) (fun c_2 => ?_)
  · refine lv_iconst (v := 1) hx hb dX12_rests_30 (by decide) ?_
    refine zput (D := D) (ci := 11) (v := .int 1) (ty := .int) hx hb hts hiX12 tyX12 tyX12_ok nmX12 hown hK hw hS 0 rfl rfl 0 (by decide) (hts (.fieldLink RX12 129 "BeardPassModel" "thrown" "I") (by decide +kernel)) (fun _ h9 => h9) rfl (by decide +kernel) rfl rfl (Nat.le_of_ble_eq_true rfl) dX12_rests_31 [(h0, .inr (11, [.int 1, .int w_taped, .ref (y 0), .int w_size, .int w_place, .int w_begin, .int w_token, .long w_word, .int w_told, .int w_wrong, .ref (y 1), .ref (y 2), .ref (y 3), .ref (y 4), .ref (y 5), .ref (y 6), .ref (y 7), .ref (y 8), .ref (y 9), .ref (y 10), .ref (y 11), .ref (y 12), .int w_code, .int w_toldLines, .ref (y 13), .ref (y 14), .ref (y 15), .ref (y 16), .ref (y 17), .ref (y 18), .ref (y 19), .ref (y 20), .ref (y 21), .ref (y 22), .ref (y 23), .ref (y 24), .int w_given, .long w_fresh, .ref (y 25), .ref (y 26), .ref (y 27), .ref (y 28), .ref (y 29), .ref (y 30), .ref (y 31), .ref (y 32), .ref (y 33), .ref (y 34), .ref (y 35), .ref (y 36), .ref (y 37), .int w_done, .int w_moreAsked, .ref (y 38), .long w_g, .int w_gone, .int w_stopped]))] rfl (fun H locs hw hS => ?_)
    refine lv_aload_n hx hb dX12_rests_34 rfl (lv_at hl 0 rfl) ?_
    refine va_get (D := D) (ci := 11) (v := .int 1) hx hb hts hiX12 hown hK hw.1 0 rfl rfl 0 (by decide) (hts (.fieldLink RX12 129 "BeardPassModel" "thrown" "I") (by decide +kernel)) (fun _ h9 => h9) rfl dX12_rests_35 ?_
    refine lv_iconst (v := 1) hx hb dX12_rests_38 (by decide) ?_
    refine lv_icmp_ne (tgt := 44) hx hb dX12_rests_39 (by decide) (fun h => absurd (by decide) h) (fun _ => ?_)
    refine lv_iconst (v := 0) hx hb dX12_rests_42 (by decide) ?_
    exact ziret hx hb hr (rfl) hlocks () (congrArg (fun z => some (Value.int z)) (zrv_none (by rw [zrs, if_pos c_2]))) (trivial) hw [0] rfl (by rw [show zth p1 p2 p3 = 1 from zth_none (by rw [zrs, if_pos c_2])]; rfl) hS (Nat.le_of_ble_eq_true rfl) (Nat.le_of_ble_eq_true rfl) dX12_rests_43
  · refine lv_iload_n hx hb dX12_rests_11 rfl (lv_at hl 2 rfl) ?_
    refine lv_iconst (v := 0) hx hb dX12_rests_12 (by decide) ?_
    refine lv_bipush (v := 9) hx hb dX12_rests_13 (by decide) ?_
    refine scall0 (As := [.int p2, .int 0, .int 9]) (rest := [.ref h0]) ⟨hx, hb, hml, hown, hts⟩ (c_within l D ct p2 0 9) (va_cwS 3 hts gX12_rests_X12_within rfl rfl rfl (by decide +kernel) ⟨Nat.le_of_ble_eq_true rfl, Nat.le_of_ble_eq_true rfl⟩) hw hS hA hK hN rfl rfl hl.1 rfl (Nat.le_of_ble_eq_true rfl) dX12_rests_15 (fun _ H locs hp4 hw hS => ?_)
    have hw : zPD D A [(h0, .inr (11, [.int w_thrown, .int w_taped, .ref (y 0), .int w_size, .int w_place, .int w_begin, .int w_token, .long w_word, .int w_told, .int w_wrong, .ref (y 1), .ref (y 2), .ref (y 3), .ref (y 4), .ref (y 5), .ref (y 6), .ref (y 7), .ref (y 8), .ref (y 9), .ref (y 10), .ref (y 11), .ref (y 12), .int w_code, .int w_toldLines, .ref (y 13), .ref (y 14), .ref (y 15), .ref (y 16), .ref (y 17), .ref (y 18), .ref (y 19), .ref (y 20), .ref (y 21), .ref (y 22), .ref (y 23), .ref (y 24), .int w_given, .long w_fresh, .ref (y 25), .ref (y 26), .ref (y 27), .ref (y 28), .ref (y 29), .ref (y 30), .ref (y 31), .ref (y 32), .ref (y 33), .ref (y 34), .ref (y 35), .ref (y 36), .ref (y 37), .int w_done, .int w_moreAsked, .ref (y 38), .long w_g, .int w_gone, .int w_stopped]))] H := hw
    refine zfr 18 [.int (zwi p2 0 9), .ref h0] rfl rfl ?_
    refine lv_if_eq (tgt := 30) hx hb dX12_rests_18 (by decide) (fun c_5 => ?_) (fun c_5 => ?_)
    · refine lv_iconst (v := 1) hx hb dX12_rests_30 (by decide) ?_
      refine zput (D := D) (ci := 11) (v := .int 1) (ty := .int) hx hb hts hiX12 tyX12 tyX12_ok nmX12 hown hK hw hS 0 rfl rfl 0 (by decide) (hts (.fieldLink RX12 129 "BeardPassModel" "thrown" "I") (by decide +kernel)) (fun _ h9 => h9) rfl (by decide +kernel) rfl rfl (Nat.le_of_ble_eq_true rfl) dX12_rests_31 [(h0, .inr (11, [.int 1, .int w_taped, .ref (y 0), .int w_size, .int w_place, .int w_begin, .int w_token, .long w_word, .int w_told, .int w_wrong, .ref (y 1), .ref (y 2), .ref (y 3), .ref (y 4), .ref (y 5), .ref (y 6), .ref (y 7), .ref (y 8), .ref (y 9), .ref (y 10), .ref (y 11), .ref (y 12), .int w_code, .int w_toldLines, .ref (y 13), .ref (y 14), .ref (y 15), .ref (y 16), .ref (y 17), .ref (y 18), .ref (y 19), .ref (y 20), .ref (y 21), .ref (y 22), .ref (y 23), .ref (y 24), .int w_given, .long w_fresh, .ref (y 25), .ref (y 26), .ref (y 27), .ref (y 28), .ref (y 29), .ref (y 30), .ref (y 31), .ref (y 32), .ref (y 33), .ref (y 34), .ref (y 35), .ref (y 36), .ref (y 37), .int w_done, .int w_moreAsked, .ref (y 38), .long w_g, .int w_gone, .int w_stopped]))] rfl (fun H locs hw hS => ?_)
      refine lv_aload_n hx hb dX12_rests_34 rfl (lv_at hl 0 rfl) ?_
      refine va_get (D := D) (ci := 11) (v := .int 1) hx hb hts hiX12 hown hK hw.1 0 rfl rfl 0 (by decide) (hts (.fieldLink RX12 129 "BeardPassModel" "thrown" "I") (by decide +kernel)) (fun _ h9 => h9) rfl dX12_rests_35 ?_
      refine lv_iconst (v := 1) hx hb dX12_rests_38 (by decide) ?_
      refine lv_icmp_ne (tgt := 44) hx hb dX12_rests_39 (by decide) (fun h => absurd (by decide) h) (fun _ => ?_)
      refine lv_iconst (v := 0) hx hb dX12_rests_42 (by decide) ?_
      exact ziret hx hb hr (rfl) hlocks () (congrArg (fun z => some (Value.int z)) (zrv_none (by rw [zrs, if_neg c_2, if_pos c_5]))) (trivial) hw [0] rfl (by rw [show zth p1 p2 p3 = 1 from zth_none (by rw [zrs, if_neg c_2, if_pos c_5])]; rfl) hS (Nat.le_of_ble_eq_true rfl) (Nat.le_of_ble_eq_true rfl) dX12_rests_43
    · refine lv_iload_n hx hb dX12_rests_21 rfl (lv_at hl 3 rfl) ?_
      refine lv_iconst (v := (-1)) hx hb dX12_rests_22 (by decide) ?_
      refine lv_icmp_lt (tgt := 30) hx hb dX12_rests_23 (by decide) (fun c_7 => ?_) (fun c_7 => ?_)
      · refine lv_iconst (v := 1) hx hb dX12_rests_30 (by decide) ?_
        refine zput (D := D) (ci := 11) (v := .int 1) (ty := .int) hx hb hts hiX12 tyX12 tyX12_ok nmX12 hown hK hw hS 0 rfl rfl 0 (by decide) (hts (.fieldLink RX12 129 "BeardPassModel" "thrown" "I") (by decide +kernel)) (fun _ h9 => h9) rfl (by decide +kernel) rfl rfl (Nat.le_of_ble_eq_true rfl) dX12_rests_31 [(h0, .inr (11, [.int 1, .int w_taped, .ref (y 0), .int w_size, .int w_place, .int w_begin, .int w_token, .long w_word, .int w_told, .int w_wrong, .ref (y 1), .ref (y 2), .ref (y 3), .ref (y 4), .ref (y 5), .ref (y 6), .ref (y 7), .ref (y 8), .ref (y 9), .ref (y 10), .ref (y 11), .ref (y 12), .int w_code, .int w_toldLines, .ref (y 13), .ref (y 14), .ref (y 15), .ref (y 16), .ref (y 17), .ref (y 18), .ref (y 19), .ref (y 20), .ref (y 21), .ref (y 22), .ref (y 23), .ref (y 24), .int w_given, .long w_fresh, .ref (y 25), .ref (y 26), .ref (y 27), .ref (y 28), .ref (y 29), .ref (y 30), .ref (y 31), .ref (y 32), .ref (y 33), .ref (y 34), .ref (y 35), .ref (y 36), .ref (y 37), .int w_done, .int w_moreAsked, .ref (y 38), .long w_g, .int w_gone, .int w_stopped]))] rfl (fun H locs hw hS => ?_)
        refine lv_aload_n hx hb dX12_rests_34 rfl (lv_at hl 0 rfl) ?_
        refine va_get (D := D) (ci := 11) (v := .int 1) hx hb hts hiX12 hown hK hw.1 0 rfl rfl 0 (by decide) (hts (.fieldLink RX12 129 "BeardPassModel" "thrown" "I") (by decide +kernel)) (fun _ h9 => h9) rfl dX12_rests_35 ?_
        refine lv_iconst (v := 1) hx hb dX12_rests_38 (by decide) ?_
        refine lv_icmp_ne (tgt := 44) hx hb dX12_rests_39 (by decide) (fun h => absurd (by decide) h) (fun _ => ?_)
        refine lv_iconst (v := 0) hx hb dX12_rests_42 (by decide) ?_
        exact ziret hx hb hr (rfl) hlocks () (congrArg (fun z => some (Value.int z)) (zrv_none (by rw [zrs, if_neg c_2, if_neg c_5, if_neg (zslt (r := p1) (w := p2) c_7)]))) (trivial) hw [0] rfl (by rw [show zth p1 p2 p3 = 1 from zth_none (by rw [zrs, if_neg c_2, if_neg c_5, if_neg (zslt (r := p1) (w := p2) c_7)])]; rfl) hS (Nat.le_of_ble_eq_true rfl) (Nat.le_of_ble_eq_true rfl) dX12_rests_43
      · refine lv_iconst (v := 0) hx hb dX12_rests_26 (by decide) ?_
        refine lv_goto (tgt := 31) hx hb dX12_rests_27 (by decide) ?_
        refine zput (D := D) (ci := 11) (v := .int 0) (ty := .int) hx hb hts hiX12 tyX12 tyX12_ok nmX12 hown hK hw hS 0 rfl rfl 0 (by decide) (hts (.fieldLink RX12 129 "BeardPassModel" "thrown" "I") (by decide +kernel)) (fun _ h9 => h9) rfl (by decide +kernel) rfl rfl (Nat.le_of_ble_eq_true rfl) dX12_rests_31 [(h0, .inr (11, [.int 0, .int w_taped, .ref (y 0), .int w_size, .int w_place, .int w_begin, .int w_token, .long w_word, .int w_told, .int w_wrong, .ref (y 1), .ref (y 2), .ref (y 3), .ref (y 4), .ref (y 5), .ref (y 6), .ref (y 7), .ref (y 8), .ref (y 9), .ref (y 10), .ref (y 11), .ref (y 12), .int w_code, .int w_toldLines, .ref (y 13), .ref (y 14), .ref (y 15), .ref (y 16), .ref (y 17), .ref (y 18), .ref (y 19), .ref (y 20), .ref (y 21), .ref (y 22), .ref (y 23), .ref (y 24), .int w_given, .long w_fresh, .ref (y 25), .ref (y 26), .ref (y 27), .ref (y 28), .ref (y 29), .ref (y 30), .ref (y 31), .ref (y 32), .ref (y 33), .ref (y 34), .ref (y 35), .ref (y 36), .ref (y 37), .int w_done, .int w_moreAsked, .ref (y 38), .long w_g, .int w_gone, .int w_stopped]))] rfl (fun H locs hw hS => ?_)
        refine lv_aload_n hx hb dX12_rests_34 rfl (lv_at hl 0 rfl) ?_
        refine va_get (D := D) (ci := 11) (v := .int 0) hx hb hts hiX12 hown hK hw.1 0 rfl rfl 0 (by decide) (hts (.fieldLink RX12 129 "BeardPassModel" "thrown" "I") (by decide +kernel)) (fun _ h9 => h9) rfl dX12_rests_35 ?_
        refine lv_iconst (v := 1) hx hb dX12_rests_38 (by decide) ?_
        refine lv_icmp_ne (tgt := 44) hx hb dX12_rests_39 (by decide) (fun _ => ?_) (fun h => absurd h (by decide))
        refine lv_iconst (v := 0) hx hb dX12_rests_44 (by decide) ?_
        refine lv_istore (lv' := [(4, .int 0), (0, .ref h0), (1, .int p1), (2, .int p2), (3, .int p3)]) hx hb dX12_rests_45 hl (by decide) rfl (fun ls hl => ?_)
        refine lv_iconst (v := 0) hx hb dX12_rests_47 (by decide) ?_
        refine lv_istore (lv' := [(5, .int 0), (4, .int 0), (0, .ref h0), (1, .int p1), (2, .int p2), (3, .int p3)]) hx hb dX12_rests_48 hl (by decide) rfl (fun ls hl => ?_)
        refine lv_iload hx hb dX12_rests_50 (lv_at hl 0 rfl) ?_
        refine lv_iconst (v := 4) hx hb dX12_rests_52 (by decide) ?_
        refine lv_icmp_ge (tgt := 135) hx hb dX12_rests_53 (by decide) (fun h => absurd h (by decide)) (fun _ => ?_)
        refine lv_iload hx hb dX12_rests_56 (lv_at hl 0 rfl) ?_
        refine lv_iconst (v := 2) hx hb dX12_rests_58 (by decide) ?_
        refine lv_idiv hx hb dX12_rests_59 (by decide) ?_
        refine ztop (.int 0) (congrArg Value.int (by decide)) ?_
        refine lv_istore (lv' := [(6, .int 0), (5, .int 0), (4, .int 0), (0, .ref h0), (1, .int p1), (2, .int p2), (3, .int p3)]) hx hb dX12_rests_60 hl (by decide) rfl (fun ls hl => ?_)
        refine lv_iload hx hb dX12_rests_62 (lv_at hl 1 rfl) ?_
        refine lv_iconst (v := 2) hx hb dX12_rests_64 (by decide) ?_
        refine lv_irem hx hb dX12_rests_65 (by decide) ?_
        refine ztop (.int 0) (congrArg Value.int (by decide)) ?_
        refine lv_istore (lv' := [(7, .int 0), (6, .int 0), (5, .int 0), (4, .int 0), (0, .ref h0), (1, .int p1), (2, .int p2), (3, .int p3)]) hx hb dX12_rests_66 hl (by decide) rfl (fun ls hl => ?_)
        refine lv_iload_n hx hb dX12_rests_68 rfl (lv_at hl 5 rfl) ?_
        refine lv_iload_n hx hb dX12_rests_69 rfl (lv_at hl 6 rfl) ?_
        refine lv_iconst (v := 1) hx hb dX12_rests_70 (by decide) ?_
        refine lv_iload hx hb dX12_rests_71 (lv_at hl 1 rfl) ?_
        refine lv_isub hx hb dX12_rests_73 ?_
        refine ztop (.int 1) (congrArg Value.int (by decide)) ?_
        refine lv_iload hx hb dX12_rests_74 (lv_at hl 0 rfl) ?_
        refine scall0 (As := [.int p1, .int p2, .int 1, .int 0]) (rest := []) ⟨hx, hb, hml, hown, hts⟩ (c_mg10 l D ct p1 p2) (va_cwS 4 hts gX12_rests_X12_guardGets rfl rfl rfl (by decide +kernel) ⟨Nat.le_of_ble_eq_true rfl, Nat.le_of_ble_eq_true rfl⟩) hw hS hA hK hN rfl rfl hl.1 rfl (Nat.le_of_ble_eq_true rfl) dX12_rests_76 (fun _ H locs hp11 hw hS => ?_)
        have hw : zPD D A [(h0, .inr (11, [.int 0, .int w_taped, .ref (y 0), .int w_size, .int w_place, .int w_begin, .int w_token, .long w_word, .int w_told, .int w_wrong, .ref (y 1), .ref (y 2), .ref (y 3), .ref (y 4), .ref (y 5), .ref (y 6), .ref (y 7), .ref (y 8), .ref (y 9), .ref (y 10), .ref (y 11), .ref (y 12), .int w_code, .int w_toldLines, .ref (y 13), .ref (y 14), .ref (y 15), .ref (y 16), .ref (y 17), .ref (y 18), .ref (y 19), .ref (y 20), .ref (y 21), .ref (y 22), .ref (y 23), .ref (y 24), .int w_given, .long w_fresh, .ref (y 25), .ref (y 26), .ref (y 27), .ref (y 28), .ref (y 29), .ref (y 30), .ref (y 31), .ref (y 32), .ref (y 33), .ref (y 34), .ref (y 35), .ref (y 36), .ref (y 37), .int w_done, .int w_moreAsked, .ref (y 38), .long w_g, .int w_gone, .int w_stopped]))] H := hw
        refine zfr 79 [.int (-1)] rfl rfl ?_
        refine lv_iload_n hx hb dX12_rests_79 rfl (lv_at hl 5 rfl) ?_
        refine lv_iload_n hx hb dX12_rests_80 rfl (lv_at hl 6 rfl) ?_
        refine lv_iload hx hb dX12_rests_81 (lv_at hl 1 rfl) ?_
        refine lv_iload hx hb dX12_rests_83 (lv_at hl 0 rfl) ?_
        refine scall0 (As := [.int p1, .int p2, .int 0, .int 0]) (rest := [.int (-1)]) ⟨hx, hb, hml, hown, hts⟩ (c_mg00 l D ct p1 p2) (va_cwS 4 hts gX12_rests_X12_guardGets rfl rfl rfl (by decide +kernel) ⟨Nat.le_of_ble_eq_true rfl, Nat.le_of_ble_eq_true rfl⟩) hw hS hA hK hN rfl rfl hl.1 rfl (Nat.le_of_ble_eq_true rfl) dX12_rests_85 (fun _ H locs hp12 hw hS => ?_)
        have hw : zPD D A [(h0, .inr (11, [.int 0, .int w_taped, .ref (y 0), .int w_size, .int w_place, .int w_begin, .int w_token, .long w_word, .int w_told, .int w_wrong, .ref (y 1), .ref (y 2), .ref (y 3), .ref (y 4), .ref (y 5), .ref (y 6), .ref (y 7), .ref (y 8), .ref (y 9), .ref (y 10), .ref (y 11), .ref (y 12), .int w_code, .int w_toldLines, .ref (y 13), .ref (y 14), .ref (y 15), .ref (y 16), .ref (y 17), .ref (y 18), .ref (y 19), .ref (y 20), .ref (y 21), .ref (y 22), .ref (y 23), .ref (y 24), .int w_given, .long w_fresh, .ref (y 25), .ref (y 26), .ref (y 27), .ref (y 28), .ref (y 29), .ref (y 30), .ref (y 31), .ref (y 32), .ref (y 33), .ref (y 34), .ref (y 35), .ref (y 36), .ref (y 37), .int w_done, .int w_moreAsked, .ref (y 38), .long w_g, .int w_gone, .int w_stopped]))] H := hw
        refine zfr 88 [.int 0, .int (-1)] rfl rfl ?_
        refine lv_icmp_gt (tgt := 129) hx hb dX12_rests_88 (by decide) (fun h => absurd h (by decide)) (fun _ => ?_)
        refine lv_iload_n hx hb dX12_rests_91 rfl (lv_at hl 5 rfl) ?_
        refine lv_iload_n hx hb dX12_rests_92 rfl (lv_at hl 6 rfl) ?_
        refine lv_iload hx hb dX12_rests_93 (lv_at hl 1 rfl) ?_
        refine lv_iconst (v := 1) hx hb dX12_rests_95 (by decide) ?_
        refine lv_iload hx hb dX12_rests_96 (lv_at hl 0 rfl) ?_
        refine lv_isub hx hb dX12_rests_98 ?_
        refine ztop (.int 1) (congrArg Value.int (by decide)) ?_
        refine scall0 (As := [.int p1, .int p2, .int 0, .int 1]) (rest := []) ⟨hx, hb, hml, hown, hts⟩ (c_mt01 l D ct p1 p2) (va_cwS 4 hts gX12_rests_X12_travellerGets rfl rfl rfl (by decide +kernel) ⟨Nat.le_of_ble_eq_true rfl, Nat.le_of_ble_eq_true rfl⟩) hw hS hA hK hN rfl rfl hl.1 rfl (Nat.le_of_ble_eq_true rfl) dX12_rests_99 (fun _ H locs hp14 hw hS => ?_)
        have hw : zPD D A [(h0, .inr (11, [.int 0, .int w_taped, .ref (y 0), .int w_size, .int w_place, .int w_begin, .int w_token, .long w_word, .int w_told, .int w_wrong, .ref (y 1), .ref (y 2), .ref (y 3), .ref (y 4), .ref (y 5), .ref (y 6), .ref (y 7), .ref (y 8), .ref (y 9), .ref (y 10), .ref (y 11), .ref (y 12), .int w_code, .int w_toldLines, .ref (y 13), .ref (y 14), .ref (y 15), .ref (y 16), .ref (y 17), .ref (y 18), .ref (y 19), .ref (y 20), .ref (y 21), .ref (y 22), .ref (y 23), .ref (y 24), .int w_given, .long w_fresh, .ref (y 25), .ref (y 26), .ref (y 27), .ref (y 28), .ref (y 29), .ref (y 30), .ref (y 31), .ref (y 32), .ref (y 33), .ref (y 34), .ref (y 35), .ref (y 36), .ref (y 37), .int w_done, .int w_moreAsked, .ref (y 38), .long w_g, .int w_gone, .int w_stopped]))] H := hw
        refine zfr 102 [.int p2] rfl rfl ?_
        refine lv_iload_n hx hb dX12_rests_102 rfl (lv_at hl 5 rfl) ?_
        refine lv_iload_n hx hb dX12_rests_103 rfl (lv_at hl 6 rfl) ?_
        refine lv_iload hx hb dX12_rests_104 (lv_at hl 1 rfl) ?_
        refine lv_iload hx hb dX12_rests_106 (lv_at hl 0 rfl) ?_
        refine scall0 (As := [.int p1, .int p2, .int 0, .int 0]) (rest := [.int p2]) ⟨hx, hb, hml, hown, hts⟩ (c_mt00 l D ct p1 p2) (va_cwS 4 hts gX12_rests_X12_travellerGets rfl rfl rfl (by decide +kernel) ⟨Nat.le_of_ble_eq_true rfl, Nat.le_of_ble_eq_true rfl⟩) hw hS hA hK hN rfl rfl hl.1 rfl (Nat.le_of_ble_eq_true rfl) dX12_rests_108 (fun _ H locs hp15 hw hS => ?_)
        have hw : zPD D A [(h0, .inr (11, [.int 0, .int w_taped, .ref (y 0), .int w_size, .int w_place, .int w_begin, .int w_token, .long w_word, .int w_told, .int w_wrong, .ref (y 1), .ref (y 2), .ref (y 3), .ref (y 4), .ref (y 5), .ref (y 6), .ref (y 7), .ref (y 8), .ref (y 9), .ref (y 10), .ref (y 11), .ref (y 12), .int w_code, .int w_toldLines, .ref (y 13), .ref (y 14), .ref (y 15), .ref (y 16), .ref (y 17), .ref (y 18), .ref (y 19), .ref (y 20), .ref (y 21), .ref (y 22), .ref (y 23), .ref (y 24), .int w_given, .long w_fresh, .ref (y 25), .ref (y 26), .ref (y 27), .ref (y 28), .ref (y 29), .ref (y 30), .ref (y 31), .ref (y 32), .ref (y 33), .ref (y 34), .ref (y 35), .ref (y 36), .ref (y 37), .int w_done, .int w_moreAsked, .ref (y 38), .long w_g, .int w_gone, .int w_stopped]))] H := hw
        refine zfr 111 [.int 0, .int p2] rfl rfl ?_
        refine lv_icmp_le (tgt := 117) hx hb dX12_rests_111 (by decide) (fun c_16 => ?_) (fun c_16 => ?_)
        · refine lv_iload hx hb dX12_rests_117 (lv_at hl 3 rfl) ?_
          refine lv_iload_n hx hb dX12_rests_119 rfl (lv_at hl 7 rfl) ?_
          refine lv_icmp_ne (tgt := 126) hx hb dX12_rests_120 (by decide) (fun c_17 => ?_) (fun c_17 => ?_)
          · refine lv_iinc (v := 1) (lv' := [(4, .int 1), (7, .int 0), (6, .int 0), (5, .int 0), (0, .ref h0), (1, .int p1), (2, .int p2), (3, .int p3)]) hx hb dX12_rests_126 hl (k := 3) rfl (by decide) (by decide) rfl (fun ls hl => ?_)
            refine lv_iinc (v := 1) (lv' := [(5, .int 1), (4, .int 1), (7, .int 0), (6, .int 0), (0, .ref h0), (1, .int p1), (2, .int p2), (3, .int p3)]) hx hb dX12_rests_129 hl (k := 3) rfl (by decide) (by decide) rfl (fun ls hl => ?_)
            refine lv_goto (tgt := 50) hx hb dX12_rests_132 (by decide) ?_
            refine lv_iload hx hb dX12_rests_50 (lv_at hl 0 rfl) ?_
            refine lv_iconst (v := 4) hx hb dX12_rests_52 (by decide) ?_
            refine lv_icmp_ge (tgt := 135) hx hb dX12_rests_53 (by decide) (fun h => absurd h (by decide)) (fun _ => ?_)
            refine lv_iload hx hb dX12_rests_56 (lv_at hl 0 rfl) ?_
            refine lv_iconst (v := 2) hx hb dX12_rests_58 (by decide) ?_
            refine lv_idiv hx hb dX12_rests_59 (by decide) ?_
            refine ztop (.int 0) (congrArg Value.int (by decide)) ?_
            refine lv_istore (lv' := [(6, .int 0), (5, .int 1), (4, .int 1), (7, .int 0), (0, .ref h0), (1, .int p1), (2, .int p2), (3, .int p3)]) hx hb dX12_rests_60 hl (by decide) rfl (fun ls hl => ?_)
            refine lv_iload hx hb dX12_rests_62 (lv_at hl 1 rfl) ?_
            refine lv_iconst (v := 2) hx hb dX12_rests_64 (by decide) ?_
            refine lv_irem hx hb dX12_rests_65 (by decide) ?_
            refine ztop (.int 1) (congrArg Value.int (by decide)) ?_
            refine lv_istore (lv' := [(7, .int 1), (6, .int 0), (5, .int 1), (4, .int 1), (0, .ref h0), (1, .int p1), (2, .int p2), (3, .int p3)]) hx hb dX12_rests_66 hl (by decide) rfl (fun ls hl => ?_)
            refine lv_iload_n hx hb dX12_rests_68 rfl (lv_at hl 5 rfl) ?_
            refine lv_iload_n hx hb dX12_rests_69 rfl (lv_at hl 6 rfl) ?_
            refine lv_iconst (v := 1) hx hb dX12_rests_70 (by decide) ?_
            refine lv_iload hx hb dX12_rests_71 (lv_at hl 1 rfl) ?_
            refine lv_isub hx hb dX12_rests_73 ?_
            refine ztop (.int 1) (congrArg Value.int (by decide)) ?_
            refine lv_iload hx hb dX12_rests_74 (lv_at hl 0 rfl) ?_
            refine scall0 (As := [.int p1, .int p2, .int 1, .int 1]) (rest := []) ⟨hx, hb, hml, hown, hts⟩ (c_mg11 l D ct p1 p2) (va_cwS 4 hts gX12_rests_X12_guardGets rfl rfl rfl (by decide +kernel) ⟨Nat.le_of_ble_eq_true rfl, Nat.le_of_ble_eq_true rfl⟩) hw hS hA hK hN rfl rfl hl.1 rfl (Nat.le_of_ble_eq_true rfl) dX12_rests_76 (fun _ H locs hp19 hw hS => ?_)
            have hw : zPD D A [(h0, .inr (11, [.int 0, .int w_taped, .ref (y 0), .int w_size, .int w_place, .int w_begin, .int w_token, .long w_word, .int w_told, .int w_wrong, .ref (y 1), .ref (y 2), .ref (y 3), .ref (y 4), .ref (y 5), .ref (y 6), .ref (y 7), .ref (y 8), .ref (y 9), .ref (y 10), .ref (y 11), .ref (y 12), .int w_code, .int w_toldLines, .ref (y 13), .ref (y 14), .ref (y 15), .ref (y 16), .ref (y 17), .ref (y 18), .ref (y 19), .ref (y 20), .ref (y 21), .ref (y 22), .ref (y 23), .ref (y 24), .int w_given, .long w_fresh, .ref (y 25), .ref (y 26), .ref (y 27), .ref (y 28), .ref (y 29), .ref (y 30), .ref (y 31), .ref (y 32), .ref (y 33), .ref (y 34), .ref (y 35), .ref (y 36), .ref (y 37), .int w_done, .int w_moreAsked, .ref (y 38), .long w_g, .int w_gone, .int w_stopped]))] H := hw
            refine zfr 79 [.int p1] rfl rfl ?_
            refine lv_iload_n hx hb dX12_rests_79 rfl (lv_at hl 5 rfl) ?_
            refine lv_iload_n hx hb dX12_rests_80 rfl (lv_at hl 6 rfl) ?_
            refine lv_iload hx hb dX12_rests_81 (lv_at hl 1 rfl) ?_
            refine lv_iload hx hb dX12_rests_83 (lv_at hl 0 rfl) ?_
            refine scall0 (As := [.int p1, .int p2, .int 0, .int 1]) (rest := [.int p1]) ⟨hx, hb, hml, hown, hts⟩ (c_mg01 l D ct p1 p2) (va_cwS 4 hts gX12_rests_X12_guardGets rfl rfl rfl (by decide +kernel) ⟨Nat.le_of_ble_eq_true rfl, Nat.le_of_ble_eq_true rfl⟩) hw hS hA hK hN rfl rfl hl.1 rfl (Nat.le_of_ble_eq_true rfl) dX12_rests_85 (fun _ H locs hp20 hw hS => ?_)
            have hw : zPD D A [(h0, .inr (11, [.int 0, .int w_taped, .ref (y 0), .int w_size, .int w_place, .int w_begin, .int w_token, .long w_word, .int w_told, .int w_wrong, .ref (y 1), .ref (y 2), .ref (y 3), .ref (y 4), .ref (y 5), .ref (y 6), .ref (y 7), .ref (y 8), .ref (y 9), .ref (y 10), .ref (y 11), .ref (y 12), .int w_code, .int w_toldLines, .ref (y 13), .ref (y 14), .ref (y 15), .ref (y 16), .ref (y 17), .ref (y 18), .ref (y 19), .ref (y 20), .ref (y 21), .ref (y 22), .ref (y 23), .ref (y 24), .int w_given, .long w_fresh, .ref (y 25), .ref (y 26), .ref (y 27), .ref (y 28), .ref (y 29), .ref (y 30), .ref (y 31), .ref (y 32), .ref (y 33), .ref (y 34), .ref (y 35), .ref (y 36), .ref (y 37), .int w_done, .int w_moreAsked, .ref (y 38), .long w_g, .int w_gone, .int w_stopped]))] H := hw
            refine zfr 88 [.int (-p2), .int p1] rfl rfl ?_
            refine lv_icmp_gt (tgt := 129) hx hb dX12_rests_88 (by decide) (fun c_21 => ?_) (fun c_21 => ?_)
            · refine lv_iinc (v := 2) (lv' := [(5, .int 2), (7, .int 1), (6, .int 0), (4, .int 1), (0, .ref h0), (1, .int p1), (2, .int p2), (3, .int p3)]) hx hb dX12_rests_129 hl (k := 2) rfl (by decide) (by decide) rfl (fun ls hl => ?_)
              refine lv_goto (tgt := 50) hx hb dX12_rests_132 (by decide) ?_
              refine lv_iload hx hb dX12_rests_50 (lv_at hl 0 rfl) ?_
              refine lv_iconst (v := 4) hx hb dX12_rests_52 (by decide) ?_
              refine lv_icmp_ge (tgt := 135) hx hb dX12_rests_53 (by decide) (fun h => absurd h (by decide)) (fun _ => ?_)
              refine lv_iload hx hb dX12_rests_56 (lv_at hl 0 rfl) ?_
              refine lv_iconst (v := 2) hx hb dX12_rests_58 (by decide) ?_
              refine lv_idiv hx hb dX12_rests_59 (by decide) ?_
              refine ztop (.int 1) (congrArg Value.int (by decide)) ?_
              refine lv_istore (lv' := [(6, .int 1), (5, .int 2), (7, .int 1), (4, .int 1), (0, .ref h0), (1, .int p1), (2, .int p2), (3, .int p3)]) hx hb dX12_rests_60 hl (by decide) rfl (fun ls hl => ?_)
              refine lv_iload hx hb dX12_rests_62 (lv_at hl 1 rfl) ?_
              refine lv_iconst (v := 2) hx hb dX12_rests_64 (by decide) ?_
              refine lv_irem hx hb dX12_rests_65 (by decide) ?_
              refine ztop (.int 0) (congrArg Value.int (by decide)) ?_
              refine lv_istore (lv' := [(7, .int 0), (6, .int 1), (5, .int 2), (4, .int 1), (0, .ref h0), (1, .int p1), (2, .int p2), (3, .int p3)]) hx hb dX12_rests_66 hl (by decide) rfl (fun ls hl => ?_)
              refine lv_iload_n hx hb dX12_rests_68 rfl (lv_at hl 5 rfl) ?_
              refine lv_iload_n hx hb dX12_rests_69 rfl (lv_at hl 6 rfl) ?_
              refine lv_iconst (v := 1) hx hb dX12_rests_70 (by decide) ?_
              refine lv_iload hx hb dX12_rests_71 (lv_at hl 1 rfl) ?_
              refine lv_isub hx hb dX12_rests_73 ?_
              refine ztop (.int 0) (congrArg Value.int (by decide)) ?_
              refine lv_iload hx hb dX12_rests_74 (lv_at hl 0 rfl) ?_
              refine scall0 (As := [.int p1, .int p2, .int 0, .int 0]) (rest := []) ⟨hx, hb, hml, hown, hts⟩ (c_mg00 l D ct p1 p2) (va_cwS 4 hts gX12_rests_X12_guardGets rfl rfl rfl (by decide +kernel) ⟨Nat.le_of_ble_eq_true rfl, Nat.le_of_ble_eq_true rfl⟩) hw hS hA hK hN rfl rfl hl.1 rfl (Nat.le_of_ble_eq_true rfl) dX12_rests_76 (fun _ H locs hp23 hw hS => ?_)
              have hw : zPD D A [(h0, .inr (11, [.int 0, .int w_taped, .ref (y 0), .int w_size, .int w_place, .int w_begin, .int w_token, .long w_word, .int w_told, .int w_wrong, .ref (y 1), .ref (y 2), .ref (y 3), .ref (y 4), .ref (y 5), .ref (y 6), .ref (y 7), .ref (y 8), .ref (y 9), .ref (y 10), .ref (y 11), .ref (y 12), .int w_code, .int w_toldLines, .ref (y 13), .ref (y 14), .ref (y 15), .ref (y 16), .ref (y 17), .ref (y 18), .ref (y 19), .ref (y 20), .ref (y 21), .ref (y 22), .ref (y 23), .ref (y 24), .int w_given, .long w_fresh, .ref (y 25), .ref (y 26), .ref (y 27), .ref (y 28), .ref (y 29), .ref (y 30), .ref (y 31), .ref (y 32), .ref (y 33), .ref (y 34), .ref (y 35), .ref (y 36), .ref (y 37), .int w_done, .int w_moreAsked, .ref (y 38), .long w_g, .int w_gone, .int w_stopped]))] H := hw
              refine zfr 79 [.int 0] rfl rfl ?_
              refine lv_iload_n hx hb dX12_rests_79 rfl (lv_at hl 5 rfl) ?_
              refine lv_iload_n hx hb dX12_rests_80 rfl (lv_at hl 6 rfl) ?_
              refine lv_iload hx hb dX12_rests_81 (lv_at hl 1 rfl) ?_
              refine lv_iload hx hb dX12_rests_83 (lv_at hl 0 rfl) ?_
              refine scall0 (As := [.int p1, .int p2, .int 1, .int 0]) (rest := [.int 0]) ⟨hx, hb, hml, hown, hts⟩ (c_mg10 l D ct p1 p2) (va_cwS 4 hts gX12_rests_X12_guardGets rfl rfl rfl (by decide +kernel) ⟨Nat.le_of_ble_eq_true rfl, Nat.le_of_ble_eq_true rfl⟩) hw hS hA hK hN rfl rfl hl.1 rfl (Nat.le_of_ble_eq_true rfl) dX12_rests_85 (fun _ H locs hp24 hw hS => ?_)
              have hw : zPD D A [(h0, .inr (11, [.int 0, .int w_taped, .ref (y 0), .int w_size, .int w_place, .int w_begin, .int w_token, .long w_word, .int w_told, .int w_wrong, .ref (y 1), .ref (y 2), .ref (y 3), .ref (y 4), .ref (y 5), .ref (y 6), .ref (y 7), .ref (y 8), .ref (y 9), .ref (y 10), .ref (y 11), .ref (y 12), .int w_code, .int w_toldLines, .ref (y 13), .ref (y 14), .ref (y 15), .ref (y 16), .ref (y 17), .ref (y 18), .ref (y 19), .ref (y 20), .ref (y 21), .ref (y 22), .ref (y 23), .ref (y 24), .int w_given, .long w_fresh, .ref (y 25), .ref (y 26), .ref (y 27), .ref (y 28), .ref (y 29), .ref (y 30), .ref (y 31), .ref (y 32), .ref (y 33), .ref (y 34), .ref (y 35), .ref (y 36), .ref (y 37), .int w_done, .int w_moreAsked, .ref (y 38), .long w_g, .int w_gone, .int w_stopped]))] H := hw
              refine zfr 88 [.int (-1), .int 0] rfl rfl ?_
              refine lv_icmp_gt (tgt := 129) hx hb dX12_rests_88 (by decide) (fun _ => ?_) (fun h => absurd (by decide) h)
              refine lv_iinc (v := 3) (lv' := [(5, .int 3), (7, .int 0), (6, .int 1), (4, .int 1), (0, .ref h0), (1, .int p1), (2, .int p2), (3, .int p3)]) hx hb dX12_rests_129 hl (k := 2) rfl (by decide) (by decide) rfl (fun ls hl => ?_)
              refine lv_goto (tgt := 50) hx hb dX12_rests_132 (by decide) ?_
              refine lv_iload hx hb dX12_rests_50 (lv_at hl 0 rfl) ?_
              refine lv_iconst (v := 4) hx hb dX12_rests_52 (by decide) ?_
              refine lv_icmp_ge (tgt := 135) hx hb dX12_rests_53 (by decide) (fun h => absurd h (by decide)) (fun _ => ?_)
              refine lv_iload hx hb dX12_rests_56 (lv_at hl 0 rfl) ?_
              refine lv_iconst (v := 2) hx hb dX12_rests_58 (by decide) ?_
              refine lv_idiv hx hb dX12_rests_59 (by decide) ?_
              refine ztop (.int 1) (congrArg Value.int (by decide)) ?_
              refine lv_istore (lv' := [(6, .int 1), (5, .int 3), (7, .int 0), (4, .int 1), (0, .ref h0), (1, .int p1), (2, .int p2), (3, .int p3)]) hx hb dX12_rests_60 hl (by decide) rfl (fun ls hl => ?_)
              refine lv_iload hx hb dX12_rests_62 (lv_at hl 1 rfl) ?_
              refine lv_iconst (v := 2) hx hb dX12_rests_64 (by decide) ?_
              refine lv_irem hx hb dX12_rests_65 (by decide) ?_
              refine ztop (.int 1) (congrArg Value.int (by decide)) ?_
              refine lv_istore (lv' := [(7, .int 1), (6, .int 1), (5, .int 3), (4, .int 1), (0, .ref h0), (1, .int p1), (2, .int p2), (3, .int p3)]) hx hb dX12_rests_66 hl (by decide) rfl (fun ls hl => ?_)
              refine lv_iload_n hx hb dX12_rests_68 rfl (lv_at hl 5 rfl) ?_
              refine lv_iload_n hx hb dX12_rests_69 rfl (lv_at hl 6 rfl) ?_
              refine lv_iconst (v := 1) hx hb dX12_rests_70 (by decide) ?_
              refine lv_iload hx hb dX12_rests_71 (lv_at hl 1 rfl) ?_
              refine lv_isub hx hb dX12_rests_73 ?_
              refine ztop (.int 0) (congrArg Value.int (by decide)) ?_
              refine lv_iload hx hb dX12_rests_74 (lv_at hl 0 rfl) ?_
              refine scall0 (As := [.int p1, .int p2, .int 0, .int 1]) (rest := []) ⟨hx, hb, hml, hown, hts⟩ (c_mg01 l D ct p1 p2) (va_cwS 4 hts gX12_rests_X12_guardGets rfl rfl rfl (by decide +kernel) ⟨Nat.le_of_ble_eq_true rfl, Nat.le_of_ble_eq_true rfl⟩) hw hS hA hK hN rfl rfl hl.1 rfl (Nat.le_of_ble_eq_true rfl) dX12_rests_76 (fun _ H locs hp27 hw hS => ?_)
              have hw : zPD D A [(h0, .inr (11, [.int 0, .int w_taped, .ref (y 0), .int w_size, .int w_place, .int w_begin, .int w_token, .long w_word, .int w_told, .int w_wrong, .ref (y 1), .ref (y 2), .ref (y 3), .ref (y 4), .ref (y 5), .ref (y 6), .ref (y 7), .ref (y 8), .ref (y 9), .ref (y 10), .ref (y 11), .ref (y 12), .int w_code, .int w_toldLines, .ref (y 13), .ref (y 14), .ref (y 15), .ref (y 16), .ref (y 17), .ref (y 18), .ref (y 19), .ref (y 20), .ref (y 21), .ref (y 22), .ref (y 23), .ref (y 24), .int w_given, .long w_fresh, .ref (y 25), .ref (y 26), .ref (y 27), .ref (y 28), .ref (y 29), .ref (y 30), .ref (y 31), .ref (y 32), .ref (y 33), .ref (y 34), .ref (y 35), .ref (y 36), .ref (y 37), .int w_done, .int w_moreAsked, .ref (y 38), .long w_g, .int w_gone, .int w_stopped]))] H := hw
              refine zfr 79 [.int (-p2)] rfl rfl ?_
              refine lv_iload_n hx hb dX12_rests_79 rfl (lv_at hl 5 rfl) ?_
              refine lv_iload_n hx hb dX12_rests_80 rfl (lv_at hl 6 rfl) ?_
              refine lv_iload hx hb dX12_rests_81 (lv_at hl 1 rfl) ?_
              refine lv_iload hx hb dX12_rests_83 (lv_at hl 0 rfl) ?_
              refine scall0 (As := [.int p1, .int p2, .int 1, .int 1]) (rest := [.int (-p2)]) ⟨hx, hb, hml, hown, hts⟩ (c_mg11 l D ct p1 p2) (va_cwS 4 hts gX12_rests_X12_guardGets rfl rfl rfl (by decide +kernel) ⟨Nat.le_of_ble_eq_true rfl, Nat.le_of_ble_eq_true rfl⟩) hw hS hA hK hN rfl rfl hl.1 rfl (Nat.le_of_ble_eq_true rfl) dX12_rests_85 (fun _ H locs hp28 hw hS => ?_)
              have hw : zPD D A [(h0, .inr (11, [.int 0, .int w_taped, .ref (y 0), .int w_size, .int w_place, .int w_begin, .int w_token, .long w_word, .int w_told, .int w_wrong, .ref (y 1), .ref (y 2), .ref (y 3), .ref (y 4), .ref (y 5), .ref (y 6), .ref (y 7), .ref (y 8), .ref (y 9), .ref (y 10), .ref (y 11), .ref (y 12), .int w_code, .int w_toldLines, .ref (y 13), .ref (y 14), .ref (y 15), .ref (y 16), .ref (y 17), .ref (y 18), .ref (y 19), .ref (y 20), .ref (y 21), .ref (y 22), .ref (y 23), .ref (y 24), .int w_given, .long w_fresh, .ref (y 25), .ref (y 26), .ref (y 27), .ref (y 28), .ref (y 29), .ref (y 30), .ref (y 31), .ref (y 32), .ref (y 33), .ref (y 34), .ref (y 35), .ref (y 36), .ref (y 37), .int w_done, .int w_moreAsked, .ref (y 38), .long w_g, .int w_gone, .int w_stopped]))] H := hw
              refine zfr 88 [.int p1, .int (-p2)] rfl rfl ?_
              refine lv_icmp_gt (tgt := 129) hx hb dX12_rests_88 (by decide) (fun c_29 => ?_) (fun c_29 => ?_)
              · refine lv_iinc (v := 4) (lv' := [(5, .int 4), (7, .int 1), (6, .int 1), (4, .int 1), (0, .ref h0), (1, .int p1), (2, .int p2), (3, .int p3)]) hx hb dX12_rests_129 hl (k := 2) rfl (by decide) (by decide) rfl (fun ls hl => ?_)
                refine lv_goto (tgt := 50) hx hb dX12_rests_132 (by decide) ?_
                refine lv_iload hx hb dX12_rests_50 (lv_at hl 0 rfl) ?_
                refine lv_iconst (v := 4) hx hb dX12_rests_52 (by decide) ?_
                refine lv_icmp_ge (tgt := 135) hx hb dX12_rests_53 (by decide) (fun _ => ?_) (fun h => absurd (by decide) h)
                refine lv_aload_n hx hb dX12_rests_135 rfl (lv_at hl 4 rfl) ?_
                refine lv_iload_n hx hb dX12_rests_136 rfl (lv_at hl 7 rfl) ?_
                refine lv_iconst (v := (-1)) hx hb dX12_rests_137 (by decide) ?_
                refine lv_icmp_ne (tgt := 145) hx hb dX12_rests_138 (by decide) (fun c_31 => ?_) (fun c_31 => ?_)
                · refine lv_iconst (v := 1) hx hb dX12_rests_145 (by decide) ?_
                  refine zput (D := D) (ci := 11) (v := .int 1) (ty := .int) hx hb hts hiX12 tyX12 tyX12_ok nmX12 hown hK hw hS 0 rfl rfl 0 (by decide) (hts (.fieldLink RX12 129 "BeardPassModel" "thrown" "I") (by decide +kernel)) (fun _ h9 => h9) rfl (by decide +kernel) rfl rfl (Nat.le_of_ble_eq_true rfl) dX12_rests_146 [(h0, .inr (11, [.int 1, .int w_taped, .ref (y 0), .int w_size, .int w_place, .int w_begin, .int w_token, .long w_word, .int w_told, .int w_wrong, .ref (y 1), .ref (y 2), .ref (y 3), .ref (y 4), .ref (y 5), .ref (y 6), .ref (y 7), .ref (y 8), .ref (y 9), .ref (y 10), .ref (y 11), .ref (y 12), .int w_code, .int w_toldLines, .ref (y 13), .ref (y 14), .ref (y 15), .ref (y 16), .ref (y 17), .ref (y 18), .ref (y 19), .ref (y 20), .ref (y 21), .ref (y 22), .ref (y 23), .ref (y 24), .int w_given, .long w_fresh, .ref (y 25), .ref (y 26), .ref (y 27), .ref (y 28), .ref (y 29), .ref (y 30), .ref (y 31), .ref (y 32), .ref (y 33), .ref (y 34), .ref (y 35), .ref (y 36), .ref (y 37), .int w_done, .int w_moreAsked, .ref (y 38), .long w_g, .int w_gone, .int w_stopped]))] rfl (fun H locs hw hS => ?_)
                  refine lv_iload_n hx hb dX12_rests_149 rfl (lv_at hl 7 rfl) ?_
                  refine lv_iconst (v := (-1)) hx hb dX12_rests_150 (by decide) ?_
                  refine lv_icmp_ne (tgt := 159) hx hb dX12_rests_151 (by decide) (fun _ => ?_) (fun h => absurd h (c_31))
                  refine lv_iconst (v := 0) hx hb dX12_rests_159 (by decide) ?_
                  exact ziret hx hb hr (rfl) hlocks () (congrArg (fun z => some (Value.int z)) (zrv_none (by rw [zrs, if_neg c_2, if_neg c_5, if_pos (zsge (r := p1) (w := p2) c_7), zrq0, if_neg (show ¬ zat0 p2 = 0 by rw [zat0, if_pos c_16]; decide), if_neg c_17, zrq1, if_pos (show zat1 p1 p2 = 0 from if_pos c_21), zrq3, if_pos (show zat3 p1 p2 = 0 from if_pos c_29), zrq4, if_neg c_31]))) (trivial) hw [0] rfl (by rw [show zth p1 p2 p3 = 1 from zth_none (by rw [zrs, if_neg c_2, if_neg c_5, if_pos (zsge (r := p1) (w := p2) c_7), zrq0, if_neg (show ¬ zat0 p2 = 0 by rw [zat0, if_pos c_16]; decide), if_neg c_17, zrq1, if_pos (show zat1 p1 p2 = 0 from if_pos c_21), zrq3, if_pos (show zat3 p1 p2 = 0 from if_pos c_29), zrq4, if_neg c_31])]; rfl) hS (Nat.le_of_ble_eq_true rfl) (Nat.le_of_ble_eq_true rfl) dX12_rests_160
                · refine lv_iconst (v := 0) hx hb dX12_rests_141 (by decide) ?_
                  refine lv_goto (tgt := 146) hx hb dX12_rests_142 (by decide) ?_
                  refine zput (D := D) (ci := 11) (v := .int 0) (ty := .int) hx hb hts hiX12 tyX12 tyX12_ok nmX12 hown hK hw hS 0 rfl rfl 0 (by decide) (hts (.fieldLink RX12 129 "BeardPassModel" "thrown" "I") (by decide +kernel)) (fun _ h9 => h9) rfl (by decide +kernel) rfl rfl (Nat.le_of_ble_eq_true rfl) dX12_rests_146 [(h0, .inr (11, [.int 0, .int w_taped, .ref (y 0), .int w_size, .int w_place, .int w_begin, .int w_token, .long w_word, .int w_told, .int w_wrong, .ref (y 1), .ref (y 2), .ref (y 3), .ref (y 4), .ref (y 5), .ref (y 6), .ref (y 7), .ref (y 8), .ref (y 9), .ref (y 10), .ref (y 11), .ref (y 12), .int w_code, .int w_toldLines, .ref (y 13), .ref (y 14), .ref (y 15), .ref (y 16), .ref (y 17), .ref (y 18), .ref (y 19), .ref (y 20), .ref (y 21), .ref (y 22), .ref (y 23), .ref (y 24), .int w_given, .long w_fresh, .ref (y 25), .ref (y 26), .ref (y 27), .ref (y 28), .ref (y 29), .ref (y 30), .ref (y 31), .ref (y 32), .ref (y 33), .ref (y 34), .ref (y 35), .ref (y 36), .ref (y 37), .int w_done, .int w_moreAsked, .ref (y 38), .long w_g, .int w_gone, .int w_stopped]))] rfl (fun H locs hw hS => ?_)
                  refine lv_iload_n hx hb dX12_rests_149 rfl (lv_at hl 7 rfl) ?_
                  refine lv_iconst (v := (-1)) hx hb dX12_rests_150 (by decide) ?_
                  refine lv_icmp_ne (tgt := 159) hx hb dX12_rests_151 (by decide) (fun h => absurd (c_31) h) (fun _ => ?_)
                  refine lv_iload hx hb dX12_rests_154 (lv_at hl 3 rfl) ?_
                  refine lv_goto (tgt := 160) hx hb dX12_rests_156 (by decide) ?_
                  exact ziret hx hb hr (rfl) hlocks () (congrArg (fun z => some (Value.int z)) (zrv_some (by rw [zrs, if_neg c_2, if_neg c_5, if_pos (zsge (r := p1) (w := p2) c_7), zrq0, if_neg (show ¬ zat0 p2 = 0 by rw [zat0, if_pos c_16]; decide), if_neg c_17, zrq1, if_pos (show zat1 p1 p2 = 0 from if_pos c_21), zrq3, if_pos (show zat3 p1 p2 = 0 from if_pos c_29), zrq4, if_pos c_31]))) (trivial) hw [0] rfl (by rw [show zth p1 p2 p3 = 0 from zth_some (v := 1) (by rw [zrs, if_neg c_2, if_neg c_5, if_pos (zsge (r := p1) (w := p2) c_7), zrq0, if_neg (show ¬ zat0 p2 = 0 by rw [zat0, if_pos c_16]; decide), if_neg c_17, zrq1, if_pos (show zat1 p1 p2 = 0 from if_pos c_21), zrq3, if_pos (show zat3 p1 p2 = 0 from if_pos c_29), zrq4, if_pos c_31])]; rfl) hS (Nat.le_of_ble_eq_true rfl) (Nat.le_of_ble_eq_true rfl) dX12_rests_160
              · refine lv_iload_n hx hb dX12_rests_91 rfl (lv_at hl 5 rfl) ?_
                refine lv_iload_n hx hb dX12_rests_92 rfl (lv_at hl 6 rfl) ?_
                refine lv_iload hx hb dX12_rests_93 (lv_at hl 1 rfl) ?_
                refine lv_iconst (v := 1) hx hb dX12_rests_95 (by decide) ?_
                refine lv_iload hx hb dX12_rests_96 (lv_at hl 0 rfl) ?_
                refine lv_isub hx hb dX12_rests_98 ?_
                refine ztop (.int 0) (congrArg Value.int (by decide)) ?_
                refine scall0 (As := [.int p1, .int p2, .int 1, .int 0]) (rest := []) ⟨hx, hb, hml, hown, hts⟩ (c_mt10 l D ct p1 p2) (va_cwS 4 hts gX12_rests_X12_travellerGets rfl rfl rfl (by decide +kernel) ⟨Nat.le_of_ble_eq_true rfl, Nat.le_of_ble_eq_true rfl⟩) hw hS hA hK hN rfl rfl hl.1 rfl (Nat.le_of_ble_eq_true rfl) dX12_rests_99 (fun _ H locs hp34 hw hS => ?_)
                have hw : zPD D A [(h0, .inr (11, [.int 0, .int w_taped, .ref (y 0), .int w_size, .int w_place, .int w_begin, .int w_token, .long w_word, .int w_told, .int w_wrong, .ref (y 1), .ref (y 2), .ref (y 3), .ref (y 4), .ref (y 5), .ref (y 6), .ref (y 7), .ref (y 8), .ref (y 9), .ref (y 10), .ref (y 11), .ref (y 12), .int w_code, .int w_toldLines, .ref (y 13), .ref (y 14), .ref (y 15), .ref (y 16), .ref (y 17), .ref (y 18), .ref (y 19), .ref (y 20), .ref (y 21), .ref (y 22), .ref (y 23), .ref (y 24), .int w_given, .long w_fresh, .ref (y 25), .ref (y 26), .ref (y 27), .ref (y 28), .ref (y 29), .ref (y 30), .ref (y 31), .ref (y 32), .ref (y 33), .ref (y 34), .ref (y 35), .ref (y 36), .ref (y 37), .int w_done, .int w_moreAsked, .ref (y 38), .long w_g, .int w_gone, .int w_stopped]))] H := hw
                refine zfr 102 [.int 0] rfl rfl ?_
                refine lv_iload_n hx hb dX12_rests_102 rfl (lv_at hl 5 rfl) ?_
                refine lv_iload_n hx hb dX12_rests_103 rfl (lv_at hl 6 rfl) ?_
                refine lv_iload hx hb dX12_rests_104 (lv_at hl 1 rfl) ?_
                refine lv_iload hx hb dX12_rests_106 (lv_at hl 0 rfl) ?_
                refine scall0 (As := [.int p1, .int p2, .int 1, .int 1]) (rest := [.int 0]) ⟨hx, hb, hml, hown, hts⟩ (c_mt11 l D ct p1 p2) (va_cwS 4 hts gX12_rests_X12_travellerGets rfl rfl rfl (by decide +kernel) ⟨Nat.le_of_ble_eq_true rfl, Nat.le_of_ble_eq_true rfl⟩) hw hS hA hK hN rfl rfl hl.1 rfl (Nat.le_of_ble_eq_true rfl) dX12_rests_108 (fun _ H locs hp35 hw hS => ?_)
                have hw : zPD D A [(h0, .inr (11, [.int 0, .int w_taped, .ref (y 0), .int w_size, .int w_place, .int w_begin, .int w_token, .long w_word, .int w_told, .int w_wrong, .ref (y 1), .ref (y 2), .ref (y 3), .ref (y 4), .ref (y 5), .ref (y 6), .ref (y 7), .ref (y 8), .ref (y 9), .ref (y 10), .ref (y 11), .ref (y 12), .int w_code, .int w_toldLines, .ref (y 13), .ref (y 14), .ref (y 15), .ref (y 16), .ref (y 17), .ref (y 18), .ref (y 19), .ref (y 20), .ref (y 21), .ref (y 22), .ref (y 23), .ref (y 24), .int w_given, .long w_fresh, .ref (y 25), .ref (y 26), .ref (y 27), .ref (y 28), .ref (y 29), .ref (y 30), .ref (y 31), .ref (y 32), .ref (y 33), .ref (y 34), .ref (y 35), .ref (y 36), .ref (y 37), .int w_done, .int w_moreAsked, .ref (y 38), .long w_g, .int w_gone, .int w_stopped]))] H := hw
                refine zfr 111 [.int (-p1), .int 0] rfl rfl ?_
                refine lv_icmp_le (tgt := 117) hx hb dX12_rests_111 (by decide) (fun c_36 => ?_) (fun c_36 => ?_)
                · refine lv_iload hx hb dX12_rests_117 (lv_at hl 3 rfl) ?_
                  refine lv_iload_n hx hb dX12_rests_119 rfl (lv_at hl 7 rfl) ?_
                  refine lv_icmp_ne (tgt := 126) hx hb dX12_rests_120 (by decide) (fun c_37 => ?_) (fun c_37 => ?_)
                  · refine lv_iinc (v := 2) (lv' := [(4, .int 2), (7, .int 1), (6, .int 1), (5, .int 3), (0, .ref h0), (1, .int p1), (2, .int p2), (3, .int p3)]) hx hb dX12_rests_126 hl (k := 3) rfl (by decide) (by decide) rfl (fun ls hl => ?_)
                    refine lv_iinc (v := 4) (lv' := [(5, .int 4), (4, .int 2), (7, .int 1), (6, .int 1), (0, .ref h0), (1, .int p1), (2, .int p2), (3, .int p3)]) hx hb dX12_rests_129 hl (k := 3) rfl (by decide) (by decide) rfl (fun ls hl => ?_)
                    refine lv_goto (tgt := 50) hx hb dX12_rests_132 (by decide) ?_
                    refine lv_iload hx hb dX12_rests_50 (lv_at hl 0 rfl) ?_
                    refine lv_iconst (v := 4) hx hb dX12_rests_52 (by decide) ?_
                    refine lv_icmp_ge (tgt := 135) hx hb dX12_rests_53 (by decide) (fun _ => ?_) (fun h => absurd (by decide) h)
                    refine lv_aload_n hx hb dX12_rests_135 rfl (lv_at hl 4 rfl) ?_
                    refine lv_iload_n hx hb dX12_rests_136 rfl (lv_at hl 7 rfl) ?_
                    refine lv_iconst (v := (-1)) hx hb dX12_rests_137 (by decide) ?_
                    refine lv_icmp_ne (tgt := 145) hx hb dX12_rests_138 (by decide) (fun c_39 => ?_) (fun c_39 => ?_)
                    · refine lv_iconst (v := 1) hx hb dX12_rests_145 (by decide) ?_
                      refine zput (D := D) (ci := 11) (v := .int 1) (ty := .int) hx hb hts hiX12 tyX12 tyX12_ok nmX12 hown hK hw hS 0 rfl rfl 0 (by decide) (hts (.fieldLink RX12 129 "BeardPassModel" "thrown" "I") (by decide +kernel)) (fun _ h9 => h9) rfl (by decide +kernel) rfl rfl (Nat.le_of_ble_eq_true rfl) dX12_rests_146 [(h0, .inr (11, [.int 1, .int w_taped, .ref (y 0), .int w_size, .int w_place, .int w_begin, .int w_token, .long w_word, .int w_told, .int w_wrong, .ref (y 1), .ref (y 2), .ref (y 3), .ref (y 4), .ref (y 5), .ref (y 6), .ref (y 7), .ref (y 8), .ref (y 9), .ref (y 10), .ref (y 11), .ref (y 12), .int w_code, .int w_toldLines, .ref (y 13), .ref (y 14), .ref (y 15), .ref (y 16), .ref (y 17), .ref (y 18), .ref (y 19), .ref (y 20), .ref (y 21), .ref (y 22), .ref (y 23), .ref (y 24), .int w_given, .long w_fresh, .ref (y 25), .ref (y 26), .ref (y 27), .ref (y 28), .ref (y 29), .ref (y 30), .ref (y 31), .ref (y 32), .ref (y 33), .ref (y 34), .ref (y 35), .ref (y 36), .ref (y 37), .int w_done, .int w_moreAsked, .ref (y 38), .long w_g, .int w_gone, .int w_stopped]))] rfl (fun H locs hw hS => ?_)
                      refine lv_iload_n hx hb dX12_rests_149 rfl (lv_at hl 7 rfl) ?_
                      refine lv_iconst (v := (-1)) hx hb dX12_rests_150 (by decide) ?_
                      refine lv_icmp_ne (tgt := 159) hx hb dX12_rests_151 (by decide) (fun _ => ?_) (fun h => absurd h (c_39))
                      refine lv_iconst (v := 0) hx hb dX12_rests_159 (by decide) ?_
                      exact ziret hx hb hr (rfl) hlocks () (congrArg (fun z => some (Value.int z)) (zrv_none (by rw [zrs, if_neg c_2, if_neg c_5, if_pos (zsge (r := p1) (w := p2) c_7), zrq0, if_neg (show ¬ zat0 p2 = 0 by rw [zat0, if_pos c_16]; decide), if_neg c_17, zrq1, if_pos (show zat1 p1 p2 = 0 from if_pos c_21), zrq3, if_neg (show ¬ zat3 p1 p2 = 0 by rw [zat3, if_neg c_29, if_pos c_36]; decide), if_neg c_37, zrq4, if_neg c_39]))) (trivial) hw [0] rfl (by rw [show zth p1 p2 p3 = 1 from zth_none (by rw [zrs, if_neg c_2, if_neg c_5, if_pos (zsge (r := p1) (w := p2) c_7), zrq0, if_neg (show ¬ zat0 p2 = 0 by rw [zat0, if_pos c_16]; decide), if_neg c_17, zrq1, if_pos (show zat1 p1 p2 = 0 from if_pos c_21), zrq3, if_neg (show ¬ zat3 p1 p2 = 0 by rw [zat3, if_neg c_29, if_pos c_36]; decide), if_neg c_37, zrq4, if_neg c_39])]; rfl) hS (Nat.le_of_ble_eq_true rfl) (Nat.le_of_ble_eq_true rfl) dX12_rests_160
                    · refine lv_iconst (v := 0) hx hb dX12_rests_141 (by decide) ?_
                      refine lv_goto (tgt := 146) hx hb dX12_rests_142 (by decide) ?_
                      refine zput (D := D) (ci := 11) (v := .int 0) (ty := .int) hx hb hts hiX12 tyX12 tyX12_ok nmX12 hown hK hw hS 0 rfl rfl 0 (by decide) (hts (.fieldLink RX12 129 "BeardPassModel" "thrown" "I") (by decide +kernel)) (fun _ h9 => h9) rfl (by decide +kernel) rfl rfl (Nat.le_of_ble_eq_true rfl) dX12_rests_146 [(h0, .inr (11, [.int 0, .int w_taped, .ref (y 0), .int w_size, .int w_place, .int w_begin, .int w_token, .long w_word, .int w_told, .int w_wrong, .ref (y 1), .ref (y 2), .ref (y 3), .ref (y 4), .ref (y 5), .ref (y 6), .ref (y 7), .ref (y 8), .ref (y 9), .ref (y 10), .ref (y 11), .ref (y 12), .int w_code, .int w_toldLines, .ref (y 13), .ref (y 14), .ref (y 15), .ref (y 16), .ref (y 17), .ref (y 18), .ref (y 19), .ref (y 20), .ref (y 21), .ref (y 22), .ref (y 23), .ref (y 24), .int w_given, .long w_fresh, .ref (y 25), .ref (y 26), .ref (y 27), .ref (y 28), .ref (y 29), .ref (y 30), .ref (y 31), .ref (y 32), .ref (y 33), .ref (y 34), .ref (y 35), .ref (y 36), .ref (y 37), .int w_done, .int w_moreAsked, .ref (y 38), .long w_g, .int w_gone, .int w_stopped]))] rfl (fun H locs hw hS => ?_)
                      refine lv_iload_n hx hb dX12_rests_149 rfl (lv_at hl 7 rfl) ?_
                      refine lv_iconst (v := (-1)) hx hb dX12_rests_150 (by decide) ?_
                      refine lv_icmp_ne (tgt := 159) hx hb dX12_rests_151 (by decide) (fun h => absurd (c_39) h) (fun _ => ?_)
                      refine lv_iload hx hb dX12_rests_154 (lv_at hl 1 rfl) ?_
                      refine lv_goto (tgt := 160) hx hb dX12_rests_156 (by decide) ?_
                      exact ziret hx hb hr (rfl) hlocks () (congrArg (fun z => some (Value.int z)) (zrv_some (by rw [zrs, if_neg c_2, if_neg c_5, if_pos (zsge (r := p1) (w := p2) c_7), zrq0, if_neg (show ¬ zat0 p2 = 0 by rw [zat0, if_pos c_16]; decide), if_neg c_17, zrq1, if_pos (show zat1 p1 p2 = 0 from if_pos c_21), zrq3, if_neg (show ¬ zat3 p1 p2 = 0 by rw [zat3, if_neg c_29, if_pos c_36]; decide), if_neg c_37, zrq4, if_pos c_39]))) (trivial) hw [0] rfl (by rw [show zth p1 p2 p3 = 0 from zth_some (v := 2) (by rw [zrs, if_neg c_2, if_neg c_5, if_pos (zsge (r := p1) (w := p2) c_7), zrq0, if_neg (show ¬ zat0 p2 = 0 by rw [zat0, if_pos c_16]; decide), if_neg c_17, zrq1, if_pos (show zat1 p1 p2 = 0 from if_pos c_21), zrq3, if_neg (show ¬ zat3 p1 p2 = 0 by rw [zat3, if_neg c_29, if_pos c_36]; decide), if_neg c_37, zrq4, if_pos c_39])]; rfl) hS (Nat.le_of_ble_eq_true rfl) (Nat.le_of_ble_eq_true rfl) dX12_rests_160
                  · refine lv_iload hx hb dX12_rests_123 (lv_at hl 2 rfl) ?_
                    exact ziret hx hb hr (rfl) hlocks () (congrArg (fun z => some (Value.int z)) (zrv_some (by rw [zrs, if_neg c_2, if_neg c_5, if_pos (zsge (r := p1) (w := p2) c_7), zrq0, if_neg (show ¬ zat0 p2 = 0 by rw [zat0, if_pos c_16]; decide), if_neg c_17, zrq1, if_pos (show zat1 p1 p2 = 0 from if_pos c_21), zrq3, if_neg (show ¬ zat3 p1 p2 = 0 by rw [zat3, if_neg c_29, if_pos c_36]; decide), if_pos c_37]))) (trivial) hw [0] rfl (by rw [show zth p1 p2 p3 = 0 from zth_some (v := 3) (by rw [zrs, if_neg c_2, if_neg c_5, if_pos (zsge (r := p1) (w := p2) c_7), zrq0, if_neg (show ¬ zat0 p2 = 0 by rw [zat0, if_pos c_16]; decide), if_neg c_17, zrq1, if_pos (show zat1 p1 p2 = 0 from if_pos c_21), zrq3, if_neg (show ¬ zat3 p1 p2 = 0 by rw [zat3, if_neg c_29, if_pos c_36]; decide), if_pos c_37])]; rfl) hS (Nat.le_of_ble_eq_true rfl) (Nat.le_of_ble_eq_true rfl) dX12_rests_125
                · refine lv_goto (tgt := 129) hx hb dX12_rests_114 (by decide) ?_
                  refine lv_iinc (v := 4) (lv' := [(5, .int 4), (7, .int 1), (6, .int 1), (4, .int 1), (0, .ref h0), (1, .int p1), (2, .int p2), (3, .int p3)]) hx hb dX12_rests_129 hl (k := 2) rfl (by decide) (by decide) rfl (fun ls hl => ?_)
                  refine lv_goto (tgt := 50) hx hb dX12_rests_132 (by decide) ?_
                  refine lv_iload hx hb dX12_rests_50 (lv_at hl 0 rfl) ?_
                  refine lv_iconst (v := 4) hx hb dX12_rests_52 (by decide) ?_
                  refine lv_icmp_ge (tgt := 135) hx hb dX12_rests_53 (by decide) (fun _ => ?_) (fun h => absurd (by decide) h)
                  refine lv_aload_n hx hb dX12_rests_135 rfl (lv_at hl 4 rfl) ?_
                  refine lv_iload_n hx hb dX12_rests_136 rfl (lv_at hl 7 rfl) ?_
                  refine lv_iconst (v := (-1)) hx hb dX12_rests_137 (by decide) ?_
                  refine lv_icmp_ne (tgt := 145) hx hb dX12_rests_138 (by decide) (fun c_43 => ?_) (fun c_43 => ?_)
                  · refine lv_iconst (v := 1) hx hb dX12_rests_145 (by decide) ?_
                    refine zput (D := D) (ci := 11) (v := .int 1) (ty := .int) hx hb hts hiX12 tyX12 tyX12_ok nmX12 hown hK hw hS 0 rfl rfl 0 (by decide) (hts (.fieldLink RX12 129 "BeardPassModel" "thrown" "I") (by decide +kernel)) (fun _ h9 => h9) rfl (by decide +kernel) rfl rfl (Nat.le_of_ble_eq_true rfl) dX12_rests_146 [(h0, .inr (11, [.int 1, .int w_taped, .ref (y 0), .int w_size, .int w_place, .int w_begin, .int w_token, .long w_word, .int w_told, .int w_wrong, .ref (y 1), .ref (y 2), .ref (y 3), .ref (y 4), .ref (y 5), .ref (y 6), .ref (y 7), .ref (y 8), .ref (y 9), .ref (y 10), .ref (y 11), .ref (y 12), .int w_code, .int w_toldLines, .ref (y 13), .ref (y 14), .ref (y 15), .ref (y 16), .ref (y 17), .ref (y 18), .ref (y 19), .ref (y 20), .ref (y 21), .ref (y 22), .ref (y 23), .ref (y 24), .int w_given, .long w_fresh, .ref (y 25), .ref (y 26), .ref (y 27), .ref (y 28), .ref (y 29), .ref (y 30), .ref (y 31), .ref (y 32), .ref (y 33), .ref (y 34), .ref (y 35), .ref (y 36), .ref (y 37), .int w_done, .int w_moreAsked, .ref (y 38), .long w_g, .int w_gone, .int w_stopped]))] rfl (fun H locs hw hS => ?_)
                    refine lv_iload_n hx hb dX12_rests_149 rfl (lv_at hl 7 rfl) ?_
                    refine lv_iconst (v := (-1)) hx hb dX12_rests_150 (by decide) ?_
                    refine lv_icmp_ne (tgt := 159) hx hb dX12_rests_151 (by decide) (fun _ => ?_) (fun h => absurd h (c_43))
                    refine lv_iconst (v := 0) hx hb dX12_rests_159 (by decide) ?_
                    exact ziret hx hb hr (rfl) hlocks () (congrArg (fun z => some (Value.int z)) (zrv_none (by rw [zrs, if_neg c_2, if_neg c_5, if_pos (zsge (r := p1) (w := p2) c_7), zrq0, if_neg (show ¬ zat0 p2 = 0 by rw [zat0, if_pos c_16]; decide), if_neg c_17, zrq1, if_pos (show zat1 p1 p2 = 0 from if_pos c_21), zrq3, if_pos (show zat3 p1 p2 = 0 from (if_neg c_29).trans (if_neg c_36)), zrq4, if_neg c_43]))) (trivial) hw [0] rfl (by rw [show zth p1 p2 p3 = 1 from zth_none (by rw [zrs, if_neg c_2, if_neg c_5, if_pos (zsge (r := p1) (w := p2) c_7), zrq0, if_neg (show ¬ zat0 p2 = 0 by rw [zat0, if_pos c_16]; decide), if_neg c_17, zrq1, if_pos (show zat1 p1 p2 = 0 from if_pos c_21), zrq3, if_pos (show zat3 p1 p2 = 0 from (if_neg c_29).trans (if_neg c_36)), zrq4, if_neg c_43])]; rfl) hS (Nat.le_of_ble_eq_true rfl) (Nat.le_of_ble_eq_true rfl) dX12_rests_160
                  · refine lv_iconst (v := 0) hx hb dX12_rests_141 (by decide) ?_
                    refine lv_goto (tgt := 146) hx hb dX12_rests_142 (by decide) ?_
                    refine zput (D := D) (ci := 11) (v := .int 0) (ty := .int) hx hb hts hiX12 tyX12 tyX12_ok nmX12 hown hK hw hS 0 rfl rfl 0 (by decide) (hts (.fieldLink RX12 129 "BeardPassModel" "thrown" "I") (by decide +kernel)) (fun _ h9 => h9) rfl (by decide +kernel) rfl rfl (Nat.le_of_ble_eq_true rfl) dX12_rests_146 [(h0, .inr (11, [.int 0, .int w_taped, .ref (y 0), .int w_size, .int w_place, .int w_begin, .int w_token, .long w_word, .int w_told, .int w_wrong, .ref (y 1), .ref (y 2), .ref (y 3), .ref (y 4), .ref (y 5), .ref (y 6), .ref (y 7), .ref (y 8), .ref (y 9), .ref (y 10), .ref (y 11), .ref (y 12), .int w_code, .int w_toldLines, .ref (y 13), .ref (y 14), .ref (y 15), .ref (y 16), .ref (y 17), .ref (y 18), .ref (y 19), .ref (y 20), .ref (y 21), .ref (y 22), .ref (y 23), .ref (y 24), .int w_given, .long w_fresh, .ref (y 25), .ref (y 26), .ref (y 27), .ref (y 28), .ref (y 29), .ref (y 30), .ref (y 31), .ref (y 32), .ref (y 33), .ref (y 34), .ref (y 35), .ref (y 36), .ref (y 37), .int w_done, .int w_moreAsked, .ref (y 38), .long w_g, .int w_gone, .int w_stopped]))] rfl (fun H locs hw hS => ?_)
                    refine lv_iload_n hx hb dX12_rests_149 rfl (lv_at hl 7 rfl) ?_
                    refine lv_iconst (v := (-1)) hx hb dX12_rests_150 (by decide) ?_
                    refine lv_icmp_ne (tgt := 159) hx hb dX12_rests_151 (by decide) (fun h => absurd (c_43) h) (fun _ => ?_)
                    refine lv_iload hx hb dX12_rests_154 (lv_at hl 3 rfl) ?_
                    refine lv_goto (tgt := 160) hx hb dX12_rests_156 (by decide) ?_
                    exact ziret hx hb hr (rfl) hlocks () (congrArg (fun z => some (Value.int z)) (zrv_some (by rw [zrs, if_neg c_2, if_neg c_5, if_pos (zsge (r := p1) (w := p2) c_7), zrq0, if_neg (show ¬ zat0 p2 = 0 by rw [zat0, if_pos c_16]; decide), if_neg c_17, zrq1, if_pos (show zat1 p1 p2 = 0 from if_pos c_21), zrq3, if_pos (show zat3 p1 p2 = 0 from (if_neg c_29).trans (if_neg c_36)), zrq4, if_pos c_43]))) (trivial) hw [0] rfl (by rw [show zth p1 p2 p3 = 0 from zth_some (v := 1) (by rw [zrs, if_neg c_2, if_neg c_5, if_pos (zsge (r := p1) (w := p2) c_7), zrq0, if_neg (show ¬ zat0 p2 = 0 by rw [zat0, if_pos c_16]; decide), if_neg c_17, zrq1, if_pos (show zat1 p1 p2 = 0 from if_pos c_21), zrq3, if_pos (show zat3 p1 p2 = 0 from (if_neg c_29).trans (if_neg c_36)), zrq4, if_pos c_43])]; rfl) hS (Nat.le_of_ble_eq_true rfl) (Nat.le_of_ble_eq_true rfl) dX12_rests_160
            · refine lv_iload_n hx hb dX12_rests_91 rfl (lv_at hl 5 rfl) ?_
              refine lv_iload_n hx hb dX12_rests_92 rfl (lv_at hl 6 rfl) ?_
              refine lv_iload hx hb dX12_rests_93 (lv_at hl 1 rfl) ?_
              refine lv_iconst (v := 1) hx hb dX12_rests_95 (by decide) ?_
              refine lv_iload hx hb dX12_rests_96 (lv_at hl 0 rfl) ?_
              refine lv_isub hx hb dX12_rests_98 ?_
              refine ztop (.int 0) (congrArg Value.int (by decide)) ?_
              refine scall0 (As := [.int p1, .int p2, .int 0, .int 0]) (rest := []) ⟨hx, hb, hml, hown, hts⟩ (c_mt00 l D ct p1 p2) (va_cwS 4 hts gX12_rests_X12_travellerGets rfl rfl rfl (by decide +kernel) ⟨Nat.le_of_ble_eq_true rfl, Nat.le_of_ble_eq_true rfl⟩) hw hS hA hK hN rfl rfl hl.1 rfl (Nat.le_of_ble_eq_true rfl) dX12_rests_99 (fun _ H locs hp46 hw hS => ?_)
              have hw : zPD D A [(h0, .inr (11, [.int 0, .int w_taped, .ref (y 0), .int w_size, .int w_place, .int w_begin, .int w_token, .long w_word, .int w_told, .int w_wrong, .ref (y 1), .ref (y 2), .ref (y 3), .ref (y 4), .ref (y 5), .ref (y 6), .ref (y 7), .ref (y 8), .ref (y 9), .ref (y 10), .ref (y 11), .ref (y 12), .int w_code, .int w_toldLines, .ref (y 13), .ref (y 14), .ref (y 15), .ref (y 16), .ref (y 17), .ref (y 18), .ref (y 19), .ref (y 20), .ref (y 21), .ref (y 22), .ref (y 23), .ref (y 24), .int w_given, .long w_fresh, .ref (y 25), .ref (y 26), .ref (y 27), .ref (y 28), .ref (y 29), .ref (y 30), .ref (y 31), .ref (y 32), .ref (y 33), .ref (y 34), .ref (y 35), .ref (y 36), .ref (y 37), .int w_done, .int w_moreAsked, .ref (y 38), .long w_g, .int w_gone, .int w_stopped]))] H := hw
              refine zfr 102 [.int 0] rfl rfl ?_
              refine lv_iload_n hx hb dX12_rests_102 rfl (lv_at hl 5 rfl) ?_
              refine lv_iload_n hx hb dX12_rests_103 rfl (lv_at hl 6 rfl) ?_
              refine lv_iload hx hb dX12_rests_104 (lv_at hl 1 rfl) ?_
              refine lv_iload hx hb dX12_rests_106 (lv_at hl 0 rfl) ?_
              refine scall0 (As := [.int p1, .int p2, .int 0, .int 1]) (rest := [.int 0]) ⟨hx, hb, hml, hown, hts⟩ (c_mt01 l D ct p1 p2) (va_cwS 4 hts gX12_rests_X12_travellerGets rfl rfl rfl (by decide +kernel) ⟨Nat.le_of_ble_eq_true rfl, Nat.le_of_ble_eq_true rfl⟩) hw hS hA hK hN rfl rfl hl.1 rfl (Nat.le_of_ble_eq_true rfl) dX12_rests_108 (fun _ H locs hp47 hw hS => ?_)
              have hw : zPD D A [(h0, .inr (11, [.int 0, .int w_taped, .ref (y 0), .int w_size, .int w_place, .int w_begin, .int w_token, .long w_word, .int w_told, .int w_wrong, .ref (y 1), .ref (y 2), .ref (y 3), .ref (y 4), .ref (y 5), .ref (y 6), .ref (y 7), .ref (y 8), .ref (y 9), .ref (y 10), .ref (y 11), .ref (y 12), .int w_code, .int w_toldLines, .ref (y 13), .ref (y 14), .ref (y 15), .ref (y 16), .ref (y 17), .ref (y 18), .ref (y 19), .ref (y 20), .ref (y 21), .ref (y 22), .ref (y 23), .ref (y 24), .int w_given, .long w_fresh, .ref (y 25), .ref (y 26), .ref (y 27), .ref (y 28), .ref (y 29), .ref (y 30), .ref (y 31), .ref (y 32), .ref (y 33), .ref (y 34), .ref (y 35), .ref (y 36), .ref (y 37), .int w_done, .int w_moreAsked, .ref (y 38), .long w_g, .int w_gone, .int w_stopped]))] H := hw
              refine zfr 111 [.int p2, .int 0] rfl rfl ?_
              refine lv_icmp_le (tgt := 117) hx hb dX12_rests_111 (by decide) (fun c_48 => ?_) (fun c_48 => ?_)
              · refine lv_iload hx hb dX12_rests_117 (lv_at hl 3 rfl) ?_
                refine lv_iload_n hx hb dX12_rests_119 rfl (lv_at hl 7 rfl) ?_
                refine lv_icmp_ne (tgt := 126) hx hb dX12_rests_120 (by decide) (fun c_49 => ?_) (fun c_49 => ?_)
                · refine lv_iinc (v := 2) (lv' := [(4, .int 2), (7, .int 1), (6, .int 0), (5, .int 1), (0, .ref h0), (1, .int p1), (2, .int p2), (3, .int p3)]) hx hb dX12_rests_126 hl (k := 3) rfl (by decide) (by decide) rfl (fun ls hl => ?_)
                  refine lv_iinc (v := 2) (lv' := [(5, .int 2), (4, .int 2), (7, .int 1), (6, .int 0), (0, .ref h0), (1, .int p1), (2, .int p2), (3, .int p3)]) hx hb dX12_rests_129 hl (k := 3) rfl (by decide) (by decide) rfl (fun ls hl => ?_)
                  refine lv_goto (tgt := 50) hx hb dX12_rests_132 (by decide) ?_
                  refine lv_iload hx hb dX12_rests_50 (lv_at hl 0 rfl) ?_
                  refine lv_iconst (v := 4) hx hb dX12_rests_52 (by decide) ?_
                  refine lv_icmp_ge (tgt := 135) hx hb dX12_rests_53 (by decide) (fun h => absurd h (by decide)) (fun _ => ?_)
                  refine lv_iload hx hb dX12_rests_56 (lv_at hl 0 rfl) ?_
                  refine lv_iconst (v := 2) hx hb dX12_rests_58 (by decide) ?_
                  refine lv_idiv hx hb dX12_rests_59 (by decide) ?_
                  refine ztop (.int 1) (congrArg Value.int (by decide)) ?_
                  refine lv_istore (lv' := [(6, .int 1), (5, .int 2), (4, .int 2), (7, .int 1), (0, .ref h0), (1, .int p1), (2, .int p2), (3, .int p3)]) hx hb dX12_rests_60 hl (by decide) rfl (fun ls hl => ?_)
                  refine lv_iload hx hb dX12_rests_62 (lv_at hl 1 rfl) ?_
                  refine lv_iconst (v := 2) hx hb dX12_rests_64 (by decide) ?_
                  refine lv_irem hx hb dX12_rests_65 (by decide) ?_
                  refine ztop (.int 0) (congrArg Value.int (by decide)) ?_
                  refine lv_istore (lv' := [(7, .int 0), (6, .int 1), (5, .int 2), (4, .int 2), (0, .ref h0), (1, .int p1), (2, .int p2), (3, .int p3)]) hx hb dX12_rests_66 hl (by decide) rfl (fun ls hl => ?_)
                  refine lv_iload_n hx hb dX12_rests_68 rfl (lv_at hl 5 rfl) ?_
                  refine lv_iload_n hx hb dX12_rests_69 rfl (lv_at hl 6 rfl) ?_
                  refine lv_iconst (v := 1) hx hb dX12_rests_70 (by decide) ?_
                  refine lv_iload hx hb dX12_rests_71 (lv_at hl 1 rfl) ?_
                  refine lv_isub hx hb dX12_rests_73 ?_
                  refine ztop (.int 0) (congrArg Value.int (by decide)) ?_
                  refine lv_iload hx hb dX12_rests_74 (lv_at hl 0 rfl) ?_
                  refine scall0 (As := [.int p1, .int p2, .int 0, .int 0]) (rest := []) ⟨hx, hb, hml, hown, hts⟩ (c_mg00 l D ct p1 p2) (va_cwS 4 hts gX12_rests_X12_guardGets rfl rfl rfl (by decide +kernel) ⟨Nat.le_of_ble_eq_true rfl, Nat.le_of_ble_eq_true rfl⟩) hw hS hA hK hN rfl rfl hl.1 rfl (Nat.le_of_ble_eq_true rfl) dX12_rests_76 (fun _ H locs hp51 hw hS => ?_)
                  have hw : zPD D A [(h0, .inr (11, [.int 0, .int w_taped, .ref (y 0), .int w_size, .int w_place, .int w_begin, .int w_token, .long w_word, .int w_told, .int w_wrong, .ref (y 1), .ref (y 2), .ref (y 3), .ref (y 4), .ref (y 5), .ref (y 6), .ref (y 7), .ref (y 8), .ref (y 9), .ref (y 10), .ref (y 11), .ref (y 12), .int w_code, .int w_toldLines, .ref (y 13), .ref (y 14), .ref (y 15), .ref (y 16), .ref (y 17), .ref (y 18), .ref (y 19), .ref (y 20), .ref (y 21), .ref (y 22), .ref (y 23), .ref (y 24), .int w_given, .long w_fresh, .ref (y 25), .ref (y 26), .ref (y 27), .ref (y 28), .ref (y 29), .ref (y 30), .ref (y 31), .ref (y 32), .ref (y 33), .ref (y 34), .ref (y 35), .ref (y 36), .ref (y 37), .int w_done, .int w_moreAsked, .ref (y 38), .long w_g, .int w_gone, .int w_stopped]))] H := hw
                  refine zfr 79 [.int 0] rfl rfl ?_
                  refine lv_iload_n hx hb dX12_rests_79 rfl (lv_at hl 5 rfl) ?_
                  refine lv_iload_n hx hb dX12_rests_80 rfl (lv_at hl 6 rfl) ?_
                  refine lv_iload hx hb dX12_rests_81 (lv_at hl 1 rfl) ?_
                  refine lv_iload hx hb dX12_rests_83 (lv_at hl 0 rfl) ?_
                  refine scall0 (As := [.int p1, .int p2, .int 1, .int 0]) (rest := [.int 0]) ⟨hx, hb, hml, hown, hts⟩ (c_mg10 l D ct p1 p2) (va_cwS 4 hts gX12_rests_X12_guardGets rfl rfl rfl (by decide +kernel) ⟨Nat.le_of_ble_eq_true rfl, Nat.le_of_ble_eq_true rfl⟩) hw hS hA hK hN rfl rfl hl.1 rfl (Nat.le_of_ble_eq_true rfl) dX12_rests_85 (fun _ H locs hp52 hw hS => ?_)
                  have hw : zPD D A [(h0, .inr (11, [.int 0, .int w_taped, .ref (y 0), .int w_size, .int w_place, .int w_begin, .int w_token, .long w_word, .int w_told, .int w_wrong, .ref (y 1), .ref (y 2), .ref (y 3), .ref (y 4), .ref (y 5), .ref (y 6), .ref (y 7), .ref (y 8), .ref (y 9), .ref (y 10), .ref (y 11), .ref (y 12), .int w_code, .int w_toldLines, .ref (y 13), .ref (y 14), .ref (y 15), .ref (y 16), .ref (y 17), .ref (y 18), .ref (y 19), .ref (y 20), .ref (y 21), .ref (y 22), .ref (y 23), .ref (y 24), .int w_given, .long w_fresh, .ref (y 25), .ref (y 26), .ref (y 27), .ref (y 28), .ref (y 29), .ref (y 30), .ref (y 31), .ref (y 32), .ref (y 33), .ref (y 34), .ref (y 35), .ref (y 36), .ref (y 37), .int w_done, .int w_moreAsked, .ref (y 38), .long w_g, .int w_gone, .int w_stopped]))] H := hw
                  refine zfr 88 [.int (-1), .int 0] rfl rfl ?_
                  refine lv_icmp_gt (tgt := 129) hx hb dX12_rests_88 (by decide) (fun _ => ?_) (fun h => absurd (by decide) h)
                  refine lv_iinc (v := 3) (lv' := [(5, .int 3), (7, .int 0), (6, .int 1), (4, .int 2), (0, .ref h0), (1, .int p1), (2, .int p2), (3, .int p3)]) hx hb dX12_rests_129 hl (k := 2) rfl (by decide) (by decide) rfl (fun ls hl => ?_)
                  refine lv_goto (tgt := 50) hx hb dX12_rests_132 (by decide) ?_
                  refine lv_iload hx hb dX12_rests_50 (lv_at hl 0 rfl) ?_
                  refine lv_iconst (v := 4) hx hb dX12_rests_52 (by decide) ?_
                  refine lv_icmp_ge (tgt := 135) hx hb dX12_rests_53 (by decide) (fun h => absurd h (by decide)) (fun _ => ?_)
                  refine lv_iload hx hb dX12_rests_56 (lv_at hl 0 rfl) ?_
                  refine lv_iconst (v := 2) hx hb dX12_rests_58 (by decide) ?_
                  refine lv_idiv hx hb dX12_rests_59 (by decide) ?_
                  refine ztop (.int 1) (congrArg Value.int (by decide)) ?_
                  refine lv_istore (lv' := [(6, .int 1), (5, .int 3), (7, .int 0), (4, .int 2), (0, .ref h0), (1, .int p1), (2, .int p2), (3, .int p3)]) hx hb dX12_rests_60 hl (by decide) rfl (fun ls hl => ?_)
                  refine lv_iload hx hb dX12_rests_62 (lv_at hl 1 rfl) ?_
                  refine lv_iconst (v := 2) hx hb dX12_rests_64 (by decide) ?_
                  refine lv_irem hx hb dX12_rests_65 (by decide) ?_
                  refine ztop (.int 1) (congrArg Value.int (by decide)) ?_
                  refine lv_istore (lv' := [(7, .int 1), (6, .int 1), (5, .int 3), (4, .int 2), (0, .ref h0), (1, .int p1), (2, .int p2), (3, .int p3)]) hx hb dX12_rests_66 hl (by decide) rfl (fun ls hl => ?_)
                  refine lv_iload_n hx hb dX12_rests_68 rfl (lv_at hl 5 rfl) ?_
                  refine lv_iload_n hx hb dX12_rests_69 rfl (lv_at hl 6 rfl) ?_
                  refine lv_iconst (v := 1) hx hb dX12_rests_70 (by decide) ?_
                  refine lv_iload hx hb dX12_rests_71 (lv_at hl 1 rfl) ?_
                  refine lv_isub hx hb dX12_rests_73 ?_
                  refine ztop (.int 0) (congrArg Value.int (by decide)) ?_
                  refine lv_iload hx hb dX12_rests_74 (lv_at hl 0 rfl) ?_
                  refine scall0 (As := [.int p1, .int p2, .int 0, .int 1]) (rest := []) ⟨hx, hb, hml, hown, hts⟩ (c_mg01 l D ct p1 p2) (va_cwS 4 hts gX12_rests_X12_guardGets rfl rfl rfl (by decide +kernel) ⟨Nat.le_of_ble_eq_true rfl, Nat.le_of_ble_eq_true rfl⟩) hw hS hA hK hN rfl rfl hl.1 rfl (Nat.le_of_ble_eq_true rfl) dX12_rests_76 (fun _ H locs hp55 hw hS => ?_)
                  have hw : zPD D A [(h0, .inr (11, [.int 0, .int w_taped, .ref (y 0), .int w_size, .int w_place, .int w_begin, .int w_token, .long w_word, .int w_told, .int w_wrong, .ref (y 1), .ref (y 2), .ref (y 3), .ref (y 4), .ref (y 5), .ref (y 6), .ref (y 7), .ref (y 8), .ref (y 9), .ref (y 10), .ref (y 11), .ref (y 12), .int w_code, .int w_toldLines, .ref (y 13), .ref (y 14), .ref (y 15), .ref (y 16), .ref (y 17), .ref (y 18), .ref (y 19), .ref (y 20), .ref (y 21), .ref (y 22), .ref (y 23), .ref (y 24), .int w_given, .long w_fresh, .ref (y 25), .ref (y 26), .ref (y 27), .ref (y 28), .ref (y 29), .ref (y 30), .ref (y 31), .ref (y 32), .ref (y 33), .ref (y 34), .ref (y 35), .ref (y 36), .ref (y 37), .int w_done, .int w_moreAsked, .ref (y 38), .long w_g, .int w_gone, .int w_stopped]))] H := hw
                  refine zfr 79 [.int (-p2)] rfl rfl ?_
                  refine lv_iload_n hx hb dX12_rests_79 rfl (lv_at hl 5 rfl) ?_
                  refine lv_iload_n hx hb dX12_rests_80 rfl (lv_at hl 6 rfl) ?_
                  refine lv_iload hx hb dX12_rests_81 (lv_at hl 1 rfl) ?_
                  refine lv_iload hx hb dX12_rests_83 (lv_at hl 0 rfl) ?_
                  refine scall0 (As := [.int p1, .int p2, .int 1, .int 1]) (rest := [.int (-p2)]) ⟨hx, hb, hml, hown, hts⟩ (c_mg11 l D ct p1 p2) (va_cwS 4 hts gX12_rests_X12_guardGets rfl rfl rfl (by decide +kernel) ⟨Nat.le_of_ble_eq_true rfl, Nat.le_of_ble_eq_true rfl⟩) hw hS hA hK hN rfl rfl hl.1 rfl (Nat.le_of_ble_eq_true rfl) dX12_rests_85 (fun _ H locs hp56 hw hS => ?_)
                  have hw : zPD D A [(h0, .inr (11, [.int 0, .int w_taped, .ref (y 0), .int w_size, .int w_place, .int w_begin, .int w_token, .long w_word, .int w_told, .int w_wrong, .ref (y 1), .ref (y 2), .ref (y 3), .ref (y 4), .ref (y 5), .ref (y 6), .ref (y 7), .ref (y 8), .ref (y 9), .ref (y 10), .ref (y 11), .ref (y 12), .int w_code, .int w_toldLines, .ref (y 13), .ref (y 14), .ref (y 15), .ref (y 16), .ref (y 17), .ref (y 18), .ref (y 19), .ref (y 20), .ref (y 21), .ref (y 22), .ref (y 23), .ref (y 24), .int w_given, .long w_fresh, .ref (y 25), .ref (y 26), .ref (y 27), .ref (y 28), .ref (y 29), .ref (y 30), .ref (y 31), .ref (y 32), .ref (y 33), .ref (y 34), .ref (y 35), .ref (y 36), .ref (y 37), .int w_done, .int w_moreAsked, .ref (y 38), .long w_g, .int w_gone, .int w_stopped]))] H := hw
                  refine zfr 88 [.int p1, .int (-p2)] rfl rfl ?_
                  refine lv_icmp_gt (tgt := 129) hx hb dX12_rests_88 (by decide) (fun c_57 => ?_) (fun c_57 => ?_)
                  · refine lv_iinc (v := 4) (lv' := [(5, .int 4), (7, .int 1), (6, .int 1), (4, .int 2), (0, .ref h0), (1, .int p1), (2, .int p2), (3, .int p3)]) hx hb dX12_rests_129 hl (k := 2) rfl (by decide) (by decide) rfl (fun ls hl => ?_)
                    refine lv_goto (tgt := 50) hx hb dX12_rests_132 (by decide) ?_
                    refine lv_iload hx hb dX12_rests_50 (lv_at hl 0 rfl) ?_
                    refine lv_iconst (v := 4) hx hb dX12_rests_52 (by decide) ?_
                    refine lv_icmp_ge (tgt := 135) hx hb dX12_rests_53 (by decide) (fun _ => ?_) (fun h => absurd (by decide) h)
                    refine lv_aload_n hx hb dX12_rests_135 rfl (lv_at hl 4 rfl) ?_
                    refine lv_iload_n hx hb dX12_rests_136 rfl (lv_at hl 7 rfl) ?_
                    refine lv_iconst (v := (-1)) hx hb dX12_rests_137 (by decide) ?_
                    refine lv_icmp_ne (tgt := 145) hx hb dX12_rests_138 (by decide) (fun c_59 => ?_) (fun c_59 => ?_)
                    · refine lv_iconst (v := 1) hx hb dX12_rests_145 (by decide) ?_
                      refine zput (D := D) (ci := 11) (v := .int 1) (ty := .int) hx hb hts hiX12 tyX12 tyX12_ok nmX12 hown hK hw hS 0 rfl rfl 0 (by decide) (hts (.fieldLink RX12 129 "BeardPassModel" "thrown" "I") (by decide +kernel)) (fun _ h9 => h9) rfl (by decide +kernel) rfl rfl (Nat.le_of_ble_eq_true rfl) dX12_rests_146 [(h0, .inr (11, [.int 1, .int w_taped, .ref (y 0), .int w_size, .int w_place, .int w_begin, .int w_token, .long w_word, .int w_told, .int w_wrong, .ref (y 1), .ref (y 2), .ref (y 3), .ref (y 4), .ref (y 5), .ref (y 6), .ref (y 7), .ref (y 8), .ref (y 9), .ref (y 10), .ref (y 11), .ref (y 12), .int w_code, .int w_toldLines, .ref (y 13), .ref (y 14), .ref (y 15), .ref (y 16), .ref (y 17), .ref (y 18), .ref (y 19), .ref (y 20), .ref (y 21), .ref (y 22), .ref (y 23), .ref (y 24), .int w_given, .long w_fresh, .ref (y 25), .ref (y 26), .ref (y 27), .ref (y 28), .ref (y 29), .ref (y 30), .ref (y 31), .ref (y 32), .ref (y 33), .ref (y 34), .ref (y 35), .ref (y 36), .ref (y 37), .int w_done, .int w_moreAsked, .ref (y 38), .long w_g, .int w_gone, .int w_stopped]))] rfl (fun H locs hw hS => ?_)
                      refine lv_iload_n hx hb dX12_rests_149 rfl (lv_at hl 7 rfl) ?_
                      refine lv_iconst (v := (-1)) hx hb dX12_rests_150 (by decide) ?_
                      refine lv_icmp_ne (tgt := 159) hx hb dX12_rests_151 (by decide) (fun _ => ?_) (fun h => absurd h (c_59))
                      refine lv_iconst (v := 0) hx hb dX12_rests_159 (by decide) ?_
                      exact ziret hx hb hr (rfl) hlocks () (congrArg (fun z => some (Value.int z)) (zrv_none (by rw [zrs, if_neg c_2, if_neg c_5, if_pos (zsge (r := p1) (w := p2) c_7), zrq0, if_neg (show ¬ zat0 p2 = 0 by rw [zat0, if_pos c_16]; decide), if_neg c_17, zrq1, if_neg (show ¬ zat1 p1 p2 = 0 by rw [zat1, if_neg c_21, if_pos c_48]; decide), if_neg c_49, zrq3, if_pos (show zat3 p1 p2 = 0 from if_pos c_57), zrq4, if_neg c_59]))) (trivial) hw [0] rfl (by rw [show zth p1 p2 p3 = 1 from zth_none (by rw [zrs, if_neg c_2, if_neg c_5, if_pos (zsge (r := p1) (w := p2) c_7), zrq0, if_neg (show ¬ zat0 p2 = 0 by rw [zat0, if_pos c_16]; decide), if_neg c_17, zrq1, if_neg (show ¬ zat1 p1 p2 = 0 by rw [zat1, if_neg c_21, if_pos c_48]; decide), if_neg c_49, zrq3, if_pos (show zat3 p1 p2 = 0 from if_pos c_57), zrq4, if_neg c_59])]; rfl) hS (Nat.le_of_ble_eq_true rfl) (Nat.le_of_ble_eq_true rfl) dX12_rests_160
                    · refine lv_iconst (v := 0) hx hb dX12_rests_141 (by decide) ?_
                      refine lv_goto (tgt := 146) hx hb dX12_rests_142 (by decide) ?_
                      refine zput (D := D) (ci := 11) (v := .int 0) (ty := .int) hx hb hts hiX12 tyX12 tyX12_ok nmX12 hown hK hw hS 0 rfl rfl 0 (by decide) (hts (.fieldLink RX12 129 "BeardPassModel" "thrown" "I") (by decide +kernel)) (fun _ h9 => h9) rfl (by decide +kernel) rfl rfl (Nat.le_of_ble_eq_true rfl) dX12_rests_146 [(h0, .inr (11, [.int 0, .int w_taped, .ref (y 0), .int w_size, .int w_place, .int w_begin, .int w_token, .long w_word, .int w_told, .int w_wrong, .ref (y 1), .ref (y 2), .ref (y 3), .ref (y 4), .ref (y 5), .ref (y 6), .ref (y 7), .ref (y 8), .ref (y 9), .ref (y 10), .ref (y 11), .ref (y 12), .int w_code, .int w_toldLines, .ref (y 13), .ref (y 14), .ref (y 15), .ref (y 16), .ref (y 17), .ref (y 18), .ref (y 19), .ref (y 20), .ref (y 21), .ref (y 22), .ref (y 23), .ref (y 24), .int w_given, .long w_fresh, .ref (y 25), .ref (y 26), .ref (y 27), .ref (y 28), .ref (y 29), .ref (y 30), .ref (y 31), .ref (y 32), .ref (y 33), .ref (y 34), .ref (y 35), .ref (y 36), .ref (y 37), .int w_done, .int w_moreAsked, .ref (y 38), .long w_g, .int w_gone, .int w_stopped]))] rfl (fun H locs hw hS => ?_)
                      refine lv_iload_n hx hb dX12_rests_149 rfl (lv_at hl 7 rfl) ?_
                      refine lv_iconst (v := (-1)) hx hb dX12_rests_150 (by decide) ?_
                      refine lv_icmp_ne (tgt := 159) hx hb dX12_rests_151 (by decide) (fun h => absurd (c_59) h) (fun _ => ?_)
                      refine lv_iload hx hb dX12_rests_154 (lv_at hl 3 rfl) ?_
                      refine lv_goto (tgt := 160) hx hb dX12_rests_156 (by decide) ?_
                      exact ziret hx hb hr (rfl) hlocks () (congrArg (fun z => some (Value.int z)) (zrv_some (by rw [zrs, if_neg c_2, if_neg c_5, if_pos (zsge (r := p1) (w := p2) c_7), zrq0, if_neg (show ¬ zat0 p2 = 0 by rw [zat0, if_pos c_16]; decide), if_neg c_17, zrq1, if_neg (show ¬ zat1 p1 p2 = 0 by rw [zat1, if_neg c_21, if_pos c_48]; decide), if_neg c_49, zrq3, if_pos (show zat3 p1 p2 = 0 from if_pos c_57), zrq4, if_pos c_59]))) (trivial) hw [0] rfl (by rw [show zth p1 p2 p3 = 0 from zth_some (v := 2) (by rw [zrs, if_neg c_2, if_neg c_5, if_pos (zsge (r := p1) (w := p2) c_7), zrq0, if_neg (show ¬ zat0 p2 = 0 by rw [zat0, if_pos c_16]; decide), if_neg c_17, zrq1, if_neg (show ¬ zat1 p1 p2 = 0 by rw [zat1, if_neg c_21, if_pos c_48]; decide), if_neg c_49, zrq3, if_pos (show zat3 p1 p2 = 0 from if_pos c_57), zrq4, if_pos c_59])]; rfl) hS (Nat.le_of_ble_eq_true rfl) (Nat.le_of_ble_eq_true rfl) dX12_rests_160
                  · refine lv_iload_n hx hb dX12_rests_91 rfl (lv_at hl 5 rfl) ?_
                    refine lv_iload_n hx hb dX12_rests_92 rfl (lv_at hl 6 rfl) ?_
                    refine lv_iload hx hb dX12_rests_93 (lv_at hl 1 rfl) ?_
                    refine lv_iconst (v := 1) hx hb dX12_rests_95 (by decide) ?_
                    refine lv_iload hx hb dX12_rests_96 (lv_at hl 0 rfl) ?_
                    refine lv_isub hx hb dX12_rests_98 ?_
                    refine ztop (.int 0) (congrArg Value.int (by decide)) ?_
                    refine scall0 (As := [.int p1, .int p2, .int 1, .int 0]) (rest := []) ⟨hx, hb, hml, hown, hts⟩ (c_mt10 l D ct p1 p2) (va_cwS 4 hts gX12_rests_X12_travellerGets rfl rfl rfl (by decide +kernel) ⟨Nat.le_of_ble_eq_true rfl, Nat.le_of_ble_eq_true rfl⟩) hw hS hA hK hN rfl rfl hl.1 rfl (Nat.le_of_ble_eq_true rfl) dX12_rests_99 (fun _ H locs hp62 hw hS => ?_)
                    have hw : zPD D A [(h0, .inr (11, [.int 0, .int w_taped, .ref (y 0), .int w_size, .int w_place, .int w_begin, .int w_token, .long w_word, .int w_told, .int w_wrong, .ref (y 1), .ref (y 2), .ref (y 3), .ref (y 4), .ref (y 5), .ref (y 6), .ref (y 7), .ref (y 8), .ref (y 9), .ref (y 10), .ref (y 11), .ref (y 12), .int w_code, .int w_toldLines, .ref (y 13), .ref (y 14), .ref (y 15), .ref (y 16), .ref (y 17), .ref (y 18), .ref (y 19), .ref (y 20), .ref (y 21), .ref (y 22), .ref (y 23), .ref (y 24), .int w_given, .long w_fresh, .ref (y 25), .ref (y 26), .ref (y 27), .ref (y 28), .ref (y 29), .ref (y 30), .ref (y 31), .ref (y 32), .ref (y 33), .ref (y 34), .ref (y 35), .ref (y 36), .ref (y 37), .int w_done, .int w_moreAsked, .ref (y 38), .long w_g, .int w_gone, .int w_stopped]))] H := hw
                    refine zfr 102 [.int 0] rfl rfl ?_
                    refine lv_iload_n hx hb dX12_rests_102 rfl (lv_at hl 5 rfl) ?_
                    refine lv_iload_n hx hb dX12_rests_103 rfl (lv_at hl 6 rfl) ?_
                    refine lv_iload hx hb dX12_rests_104 (lv_at hl 1 rfl) ?_
                    refine lv_iload hx hb dX12_rests_106 (lv_at hl 0 rfl) ?_
                    refine scall0 (As := [.int p1, .int p2, .int 1, .int 1]) (rest := [.int 0]) ⟨hx, hb, hml, hown, hts⟩ (c_mt11 l D ct p1 p2) (va_cwS 4 hts gX12_rests_X12_travellerGets rfl rfl rfl (by decide +kernel) ⟨Nat.le_of_ble_eq_true rfl, Nat.le_of_ble_eq_true rfl⟩) hw hS hA hK hN rfl rfl hl.1 rfl (Nat.le_of_ble_eq_true rfl) dX12_rests_108 (fun _ H locs hp63 hw hS => ?_)
                    have hw : zPD D A [(h0, .inr (11, [.int 0, .int w_taped, .ref (y 0), .int w_size, .int w_place, .int w_begin, .int w_token, .long w_word, .int w_told, .int w_wrong, .ref (y 1), .ref (y 2), .ref (y 3), .ref (y 4), .ref (y 5), .ref (y 6), .ref (y 7), .ref (y 8), .ref (y 9), .ref (y 10), .ref (y 11), .ref (y 12), .int w_code, .int w_toldLines, .ref (y 13), .ref (y 14), .ref (y 15), .ref (y 16), .ref (y 17), .ref (y 18), .ref (y 19), .ref (y 20), .ref (y 21), .ref (y 22), .ref (y 23), .ref (y 24), .int w_given, .long w_fresh, .ref (y 25), .ref (y 26), .ref (y 27), .ref (y 28), .ref (y 29), .ref (y 30), .ref (y 31), .ref (y 32), .ref (y 33), .ref (y 34), .ref (y 35), .ref (y 36), .ref (y 37), .int w_done, .int w_moreAsked, .ref (y 38), .long w_g, .int w_gone, .int w_stopped]))] H := hw
                    refine zfr 111 [.int (-p1), .int 0] rfl rfl ?_
                    refine lv_icmp_le (tgt := 117) hx hb dX12_rests_111 (by decide) (fun c_64 => ?_) (fun c_64 => ?_)
                    · refine lv_iload hx hb dX12_rests_117 (lv_at hl 3 rfl) ?_
                      refine lv_iload_n hx hb dX12_rests_119 rfl (lv_at hl 7 rfl) ?_
                      refine lv_icmp_ne (tgt := 126) hx hb dX12_rests_120 (by decide) (fun c_65 => ?_) (fun c_65 => ?_)
                      · refine lv_iinc (v := 3) (lv' := [(4, .int 3), (7, .int 1), (6, .int 1), (5, .int 3), (0, .ref h0), (1, .int p1), (2, .int p2), (3, .int p3)]) hx hb dX12_rests_126 hl (k := 3) rfl (by decide) (by decide) rfl (fun ls hl => ?_)
                        refine lv_iinc (v := 4) (lv' := [(5, .int 4), (4, .int 3), (7, .int 1), (6, .int 1), (0, .ref h0), (1, .int p1), (2, .int p2), (3, .int p3)]) hx hb dX12_rests_129 hl (k := 3) rfl (by decide) (by decide) rfl (fun ls hl => ?_)
                        refine lv_goto (tgt := 50) hx hb dX12_rests_132 (by decide) ?_
                        refine lv_iload hx hb dX12_rests_50 (lv_at hl 0 rfl) ?_
                        refine lv_iconst (v := 4) hx hb dX12_rests_52 (by decide) ?_
                        refine lv_icmp_ge (tgt := 135) hx hb dX12_rests_53 (by decide) (fun _ => ?_) (fun h => absurd (by decide) h)
                        refine lv_aload_n hx hb dX12_rests_135 rfl (lv_at hl 4 rfl) ?_
                        refine lv_iload_n hx hb dX12_rests_136 rfl (lv_at hl 7 rfl) ?_
                        refine lv_iconst (v := (-1)) hx hb dX12_rests_137 (by decide) ?_
                        refine lv_icmp_ne (tgt := 145) hx hb dX12_rests_138 (by decide) (fun c_67 => ?_) (fun c_67 => ?_)
                        · refine lv_iconst (v := 1) hx hb dX12_rests_145 (by decide) ?_
                          refine zput (D := D) (ci := 11) (v := .int 1) (ty := .int) hx hb hts hiX12 tyX12 tyX12_ok nmX12 hown hK hw hS 0 rfl rfl 0 (by decide) (hts (.fieldLink RX12 129 "BeardPassModel" "thrown" "I") (by decide +kernel)) (fun _ h9 => h9) rfl (by decide +kernel) rfl rfl (Nat.le_of_ble_eq_true rfl) dX12_rests_146 [(h0, .inr (11, [.int 1, .int w_taped, .ref (y 0), .int w_size, .int w_place, .int w_begin, .int w_token, .long w_word, .int w_told, .int w_wrong, .ref (y 1), .ref (y 2), .ref (y 3), .ref (y 4), .ref (y 5), .ref (y 6), .ref (y 7), .ref (y 8), .ref (y 9), .ref (y 10), .ref (y 11), .ref (y 12), .int w_code, .int w_toldLines, .ref (y 13), .ref (y 14), .ref (y 15), .ref (y 16), .ref (y 17), .ref (y 18), .ref (y 19), .ref (y 20), .ref (y 21), .ref (y 22), .ref (y 23), .ref (y 24), .int w_given, .long w_fresh, .ref (y 25), .ref (y 26), .ref (y 27), .ref (y 28), .ref (y 29), .ref (y 30), .ref (y 31), .ref (y 32), .ref (y 33), .ref (y 34), .ref (y 35), .ref (y 36), .ref (y 37), .int w_done, .int w_moreAsked, .ref (y 38), .long w_g, .int w_gone, .int w_stopped]))] rfl (fun H locs hw hS => ?_)
                          refine lv_iload_n hx hb dX12_rests_149 rfl (lv_at hl 7 rfl) ?_
                          refine lv_iconst (v := (-1)) hx hb dX12_rests_150 (by decide) ?_
                          refine lv_icmp_ne (tgt := 159) hx hb dX12_rests_151 (by decide) (fun _ => ?_) (fun h => absurd h (c_67))
                          refine lv_iconst (v := 0) hx hb dX12_rests_159 (by decide) ?_
                          exact ziret hx hb hr (rfl) hlocks () (congrArg (fun z => some (Value.int z)) (zrv_none (by rw [zrs, if_neg c_2, if_neg c_5, if_pos (zsge (r := p1) (w := p2) c_7), zrq0, if_neg (show ¬ zat0 p2 = 0 by rw [zat0, if_pos c_16]; decide), if_neg c_17, zrq1, if_neg (show ¬ zat1 p1 p2 = 0 by rw [zat1, if_neg c_21, if_pos c_48]; decide), if_neg c_49, zrq3, if_neg (show ¬ zat3 p1 p2 = 0 by rw [zat3, if_neg c_57, if_pos c_64]; decide), if_neg c_65, zrq4, if_neg c_67]))) (trivial) hw [0] rfl (by rw [show zth p1 p2 p3 = 1 from zth_none (by rw [zrs, if_neg c_2, if_neg c_5, if_pos (zsge (r := p1) (w := p2) c_7), zrq0, if_neg (show ¬ zat0 p2 = 0 by rw [zat0, if_pos c_16]; decide), if_neg c_17, zrq1, if_neg (show ¬ zat1 p1 p2 = 0 by rw [zat1, if_neg c_21, if_pos c_48]; decide), if_neg c_49, zrq3, if_neg (show ¬ zat3 p1 p2 = 0 by rw [zat3, if_neg c_57, if_pos c_64]; decide), if_neg c_65, zrq4, if_neg c_67])]; rfl) hS (Nat.le_of_ble_eq_true rfl) (Nat.le_of_ble_eq_true rfl) dX12_rests_160
                        · refine lv_iconst (v := 0) hx hb dX12_rests_141 (by decide) ?_
                          refine lv_goto (tgt := 146) hx hb dX12_rests_142 (by decide) ?_
                          refine zput (D := D) (ci := 11) (v := .int 0) (ty := .int) hx hb hts hiX12 tyX12 tyX12_ok nmX12 hown hK hw hS 0 rfl rfl 0 (by decide) (hts (.fieldLink RX12 129 "BeardPassModel" "thrown" "I") (by decide +kernel)) (fun _ h9 => h9) rfl (by decide +kernel) rfl rfl (Nat.le_of_ble_eq_true rfl) dX12_rests_146 [(h0, .inr (11, [.int 0, .int w_taped, .ref (y 0), .int w_size, .int w_place, .int w_begin, .int w_token, .long w_word, .int w_told, .int w_wrong, .ref (y 1), .ref (y 2), .ref (y 3), .ref (y 4), .ref (y 5), .ref (y 6), .ref (y 7), .ref (y 8), .ref (y 9), .ref (y 10), .ref (y 11), .ref (y 12), .int w_code, .int w_toldLines, .ref (y 13), .ref (y 14), .ref (y 15), .ref (y 16), .ref (y 17), .ref (y 18), .ref (y 19), .ref (y 20), .ref (y 21), .ref (y 22), .ref (y 23), .ref (y 24), .int w_given, .long w_fresh, .ref (y 25), .ref (y 26), .ref (y 27), .ref (y 28), .ref (y 29), .ref (y 30), .ref (y 31), .ref (y 32), .ref (y 33), .ref (y 34), .ref (y 35), .ref (y 36), .ref (y 37), .int w_done, .int w_moreAsked, .ref (y 38), .long w_g, .int w_gone, .int w_stopped]))] rfl (fun H locs hw hS => ?_)
                          refine lv_iload_n hx hb dX12_rests_149 rfl (lv_at hl 7 rfl) ?_
                          refine lv_iconst (v := (-1)) hx hb dX12_rests_150 (by decide) ?_
                          refine lv_icmp_ne (tgt := 159) hx hb dX12_rests_151 (by decide) (fun h => absurd (c_67) h) (fun _ => ?_)
                          refine lv_iload hx hb dX12_rests_154 (lv_at hl 1 rfl) ?_
                          refine lv_goto (tgt := 160) hx hb dX12_rests_156 (by decide) ?_
                          exact ziret hx hb hr (rfl) hlocks () (congrArg (fun z => some (Value.int z)) (zrv_some (by rw [zrs, if_neg c_2, if_neg c_5, if_pos (zsge (r := p1) (w := p2) c_7), zrq0, if_neg (show ¬ zat0 p2 = 0 by rw [zat0, if_pos c_16]; decide), if_neg c_17, zrq1, if_neg (show ¬ zat1 p1 p2 = 0 by rw [zat1, if_neg c_21, if_pos c_48]; decide), if_neg c_49, zrq3, if_neg (show ¬ zat3 p1 p2 = 0 by rw [zat3, if_neg c_57, if_pos c_64]; decide), if_neg c_65, zrq4, if_pos c_67]))) (trivial) hw [0] rfl (by rw [show zth p1 p2 p3 = 0 from zth_some (v := 3) (by rw [zrs, if_neg c_2, if_neg c_5, if_pos (zsge (r := p1) (w := p2) c_7), zrq0, if_neg (show ¬ zat0 p2 = 0 by rw [zat0, if_pos c_16]; decide), if_neg c_17, zrq1, if_neg (show ¬ zat1 p1 p2 = 0 by rw [zat1, if_neg c_21, if_pos c_48]; decide), if_neg c_49, zrq3, if_neg (show ¬ zat3 p1 p2 = 0 by rw [zat3, if_neg c_57, if_pos c_64]; decide), if_neg c_65, zrq4, if_pos c_67])]; rfl) hS (Nat.le_of_ble_eq_true rfl) (Nat.le_of_ble_eq_true rfl) dX12_rests_160
                      · refine lv_iload hx hb dX12_rests_123 (lv_at hl 2 rfl) ?_
                        exact ziret hx hb hr (rfl) hlocks () (congrArg (fun z => some (Value.int z)) (zrv_some (by rw [zrs, if_neg c_2, if_neg c_5, if_pos (zsge (r := p1) (w := p2) c_7), zrq0, if_neg (show ¬ zat0 p2 = 0 by rw [zat0, if_pos c_16]; decide), if_neg c_17, zrq1, if_neg (show ¬ zat1 p1 p2 = 0 by rw [zat1, if_neg c_21, if_pos c_48]; decide), if_neg c_49, zrq3, if_neg (show ¬ zat3 p1 p2 = 0 by rw [zat3, if_neg c_57, if_pos c_64]; decide), if_pos c_65]))) (trivial) hw [0] rfl (by rw [show zth p1 p2 p3 = 0 from zth_some (v := 3) (by rw [zrs, if_neg c_2, if_neg c_5, if_pos (zsge (r := p1) (w := p2) c_7), zrq0, if_neg (show ¬ zat0 p2 = 0 by rw [zat0, if_pos c_16]; decide), if_neg c_17, zrq1, if_neg (show ¬ zat1 p1 p2 = 0 by rw [zat1, if_neg c_21, if_pos c_48]; decide), if_neg c_49, zrq3, if_neg (show ¬ zat3 p1 p2 = 0 by rw [zat3, if_neg c_57, if_pos c_64]; decide), if_pos c_65])]; rfl) hS (Nat.le_of_ble_eq_true rfl) (Nat.le_of_ble_eq_true rfl) dX12_rests_125
                    · refine lv_goto (tgt := 129) hx hb dX12_rests_114 (by decide) ?_
                      refine lv_iinc (v := 4) (lv' := [(5, .int 4), (7, .int 1), (6, .int 1), (4, .int 2), (0, .ref h0), (1, .int p1), (2, .int p2), (3, .int p3)]) hx hb dX12_rests_129 hl (k := 2) rfl (by decide) (by decide) rfl (fun ls hl => ?_)
                      refine lv_goto (tgt := 50) hx hb dX12_rests_132 (by decide) ?_
                      refine lv_iload hx hb dX12_rests_50 (lv_at hl 0 rfl) ?_
                      refine lv_iconst (v := 4) hx hb dX12_rests_52 (by decide) ?_
                      refine lv_icmp_ge (tgt := 135) hx hb dX12_rests_53 (by decide) (fun _ => ?_) (fun h => absurd (by decide) h)
                      refine lv_aload_n hx hb dX12_rests_135 rfl (lv_at hl 4 rfl) ?_
                      refine lv_iload_n hx hb dX12_rests_136 rfl (lv_at hl 7 rfl) ?_
                      refine lv_iconst (v := (-1)) hx hb dX12_rests_137 (by decide) ?_
                      refine lv_icmp_ne (tgt := 145) hx hb dX12_rests_138 (by decide) (fun c_71 => ?_) (fun c_71 => ?_)
                      · refine lv_iconst (v := 1) hx hb dX12_rests_145 (by decide) ?_
                        refine zput (D := D) (ci := 11) (v := .int 1) (ty := .int) hx hb hts hiX12 tyX12 tyX12_ok nmX12 hown hK hw hS 0 rfl rfl 0 (by decide) (hts (.fieldLink RX12 129 "BeardPassModel" "thrown" "I") (by decide +kernel)) (fun _ h9 => h9) rfl (by decide +kernel) rfl rfl (Nat.le_of_ble_eq_true rfl) dX12_rests_146 [(h0, .inr (11, [.int 1, .int w_taped, .ref (y 0), .int w_size, .int w_place, .int w_begin, .int w_token, .long w_word, .int w_told, .int w_wrong, .ref (y 1), .ref (y 2), .ref (y 3), .ref (y 4), .ref (y 5), .ref (y 6), .ref (y 7), .ref (y 8), .ref (y 9), .ref (y 10), .ref (y 11), .ref (y 12), .int w_code, .int w_toldLines, .ref (y 13), .ref (y 14), .ref (y 15), .ref (y 16), .ref (y 17), .ref (y 18), .ref (y 19), .ref (y 20), .ref (y 21), .ref (y 22), .ref (y 23), .ref (y 24), .int w_given, .long w_fresh, .ref (y 25), .ref (y 26), .ref (y 27), .ref (y 28), .ref (y 29), .ref (y 30), .ref (y 31), .ref (y 32), .ref (y 33), .ref (y 34), .ref (y 35), .ref (y 36), .ref (y 37), .int w_done, .int w_moreAsked, .ref (y 38), .long w_g, .int w_gone, .int w_stopped]))] rfl (fun H locs hw hS => ?_)
                        refine lv_iload_n hx hb dX12_rests_149 rfl (lv_at hl 7 rfl) ?_
                        refine lv_iconst (v := (-1)) hx hb dX12_rests_150 (by decide) ?_
                        refine lv_icmp_ne (tgt := 159) hx hb dX12_rests_151 (by decide) (fun _ => ?_) (fun h => absurd h (c_71))
                        refine lv_iconst (v := 0) hx hb dX12_rests_159 (by decide) ?_
                        exact ziret hx hb hr (rfl) hlocks () (congrArg (fun z => some (Value.int z)) (zrv_none (by rw [zrs, if_neg c_2, if_neg c_5, if_pos (zsge (r := p1) (w := p2) c_7), zrq0, if_neg (show ¬ zat0 p2 = 0 by rw [zat0, if_pos c_16]; decide), if_neg c_17, zrq1, if_neg (show ¬ zat1 p1 p2 = 0 by rw [zat1, if_neg c_21, if_pos c_48]; decide), if_neg c_49, zrq3, if_pos (show zat3 p1 p2 = 0 from (if_neg c_57).trans (if_neg c_64)), zrq4, if_neg c_71]))) (trivial) hw [0] rfl (by rw [show zth p1 p2 p3 = 1 from zth_none (by rw [zrs, if_neg c_2, if_neg c_5, if_pos (zsge (r := p1) (w := p2) c_7), zrq0, if_neg (show ¬ zat0 p2 = 0 by rw [zat0, if_pos c_16]; decide), if_neg c_17, zrq1, if_neg (show ¬ zat1 p1 p2 = 0 by rw [zat1, if_neg c_21, if_pos c_48]; decide), if_neg c_49, zrq3, if_pos (show zat3 p1 p2 = 0 from (if_neg c_57).trans (if_neg c_64)), zrq4, if_neg c_71])]; rfl) hS (Nat.le_of_ble_eq_true rfl) (Nat.le_of_ble_eq_true rfl) dX12_rests_160
                      · refine lv_iconst (v := 0) hx hb dX12_rests_141 (by decide) ?_
                        refine lv_goto (tgt := 146) hx hb dX12_rests_142 (by decide) ?_
                        refine zput (D := D) (ci := 11) (v := .int 0) (ty := .int) hx hb hts hiX12 tyX12 tyX12_ok nmX12 hown hK hw hS 0 rfl rfl 0 (by decide) (hts (.fieldLink RX12 129 "BeardPassModel" "thrown" "I") (by decide +kernel)) (fun _ h9 => h9) rfl (by decide +kernel) rfl rfl (Nat.le_of_ble_eq_true rfl) dX12_rests_146 [(h0, .inr (11, [.int 0, .int w_taped, .ref (y 0), .int w_size, .int w_place, .int w_begin, .int w_token, .long w_word, .int w_told, .int w_wrong, .ref (y 1), .ref (y 2), .ref (y 3), .ref (y 4), .ref (y 5), .ref (y 6), .ref (y 7), .ref (y 8), .ref (y 9), .ref (y 10), .ref (y 11), .ref (y 12), .int w_code, .int w_toldLines, .ref (y 13), .ref (y 14), .ref (y 15), .ref (y 16), .ref (y 17), .ref (y 18), .ref (y 19), .ref (y 20), .ref (y 21), .ref (y 22), .ref (y 23), .ref (y 24), .int w_given, .long w_fresh, .ref (y 25), .ref (y 26), .ref (y 27), .ref (y 28), .ref (y 29), .ref (y 30), .ref (y 31), .ref (y 32), .ref (y 33), .ref (y 34), .ref (y 35), .ref (y 36), .ref (y 37), .int w_done, .int w_moreAsked, .ref (y 38), .long w_g, .int w_gone, .int w_stopped]))] rfl (fun H locs hw hS => ?_)
                        refine lv_iload_n hx hb dX12_rests_149 rfl (lv_at hl 7 rfl) ?_
                        refine lv_iconst (v := (-1)) hx hb dX12_rests_150 (by decide) ?_
                        refine lv_icmp_ne (tgt := 159) hx hb dX12_rests_151 (by decide) (fun h => absurd (c_71) h) (fun _ => ?_)
                        refine lv_iload hx hb dX12_rests_154 (lv_at hl 3 rfl) ?_
                        refine lv_goto (tgt := 160) hx hb dX12_rests_156 (by decide) ?_
                        exact ziret hx hb hr (rfl) hlocks () (congrArg (fun z => some (Value.int z)) (zrv_some (by rw [zrs, if_neg c_2, if_neg c_5, if_pos (zsge (r := p1) (w := p2) c_7), zrq0, if_neg (show ¬ zat0 p2 = 0 by rw [zat0, if_pos c_16]; decide), if_neg c_17, zrq1, if_neg (show ¬ zat1 p1 p2 = 0 by rw [zat1, if_neg c_21, if_pos c_48]; decide), if_neg c_49, zrq3, if_pos (show zat3 p1 p2 = 0 from (if_neg c_57).trans (if_neg c_64)), zrq4, if_pos c_71]))) (trivial) hw [0] rfl (by rw [show zth p1 p2 p3 = 0 from zth_some (v := 2) (by rw [zrs, if_neg c_2, if_neg c_5, if_pos (zsge (r := p1) (w := p2) c_7), zrq0, if_neg (show ¬ zat0 p2 = 0 by rw [zat0, if_pos c_16]; decide), if_neg c_17, zrq1, if_neg (show ¬ zat1 p1 p2 = 0 by rw [zat1, if_neg c_21, if_pos c_48]; decide), if_neg c_49, zrq3, if_pos (show zat3 p1 p2 = 0 from (if_neg c_57).trans (if_neg c_64)), zrq4, if_pos c_71])]; rfl) hS (Nat.le_of_ble_eq_true rfl) (Nat.le_of_ble_eq_true rfl) dX12_rests_160
                · refine lv_iload hx hb dX12_rests_123 (lv_at hl 2 rfl) ?_
                  exact ziret hx hb hr (rfl) hlocks () (congrArg (fun z => some (Value.int z)) (zrv_some (by rw [zrs, if_neg c_2, if_neg c_5, if_pos (zsge (r := p1) (w := p2) c_7), zrq0, if_neg (show ¬ zat0 p2 = 0 by rw [zat0, if_pos c_16]; decide), if_neg c_17, zrq1, if_neg (show ¬ zat1 p1 p2 = 0 by rw [zat1, if_neg c_21, if_pos c_48]; decide), if_pos c_49]))) (trivial) hw [0] rfl (by rw [show zth p1 p2 p3 = 0 from zth_some (v := 1) (by rw [zrs, if_neg c_2, if_neg c_5, if_pos (zsge (r := p1) (w := p2) c_7), zrq0, if_neg (show ¬ zat0 p2 = 0 by rw [zat0, if_pos c_16]; decide), if_neg c_17, zrq1, if_neg (show ¬ zat1 p1 p2 = 0 by rw [zat1, if_neg c_21, if_pos c_48]; decide), if_pos c_49])]; rfl) hS (Nat.le_of_ble_eq_true rfl) (Nat.le_of_ble_eq_true rfl) dX12_rests_125
              · refine lv_goto (tgt := 129) hx hb dX12_rests_114 (by decide) ?_
                refine lv_iinc (v := 2) (lv' := [(5, .int 2), (7, .int 1), (6, .int 0), (4, .int 1), (0, .ref h0), (1, .int p1), (2, .int p2), (3, .int p3)]) hx hb dX12_rests_129 hl (k := 2) rfl (by decide) (by decide) rfl (fun ls hl => ?_)
                refine lv_goto (tgt := 50) hx hb dX12_rests_132 (by decide) ?_
                refine lv_iload hx hb dX12_rests_50 (lv_at hl 0 rfl) ?_
                refine lv_iconst (v := 4) hx hb dX12_rests_52 (by decide) ?_
                refine lv_icmp_ge (tgt := 135) hx hb dX12_rests_53 (by decide) (fun h => absurd h (by decide)) (fun _ => ?_)
                refine lv_iload hx hb dX12_rests_56 (lv_at hl 0 rfl) ?_
                refine lv_iconst (v := 2) hx hb dX12_rests_58 (by decide) ?_
                refine lv_idiv hx hb dX12_rests_59 (by decide) ?_
                refine ztop (.int 1) (congrArg Value.int (by decide)) ?_
                refine lv_istore (lv' := [(6, .int 1), (5, .int 2), (7, .int 1), (4, .int 1), (0, .ref h0), (1, .int p1), (2, .int p2), (3, .int p3)]) hx hb dX12_rests_60 hl (by decide) rfl (fun ls hl => ?_)
                refine lv_iload hx hb dX12_rests_62 (lv_at hl 1 rfl) ?_
                refine lv_iconst (v := 2) hx hb dX12_rests_64 (by decide) ?_
                refine lv_irem hx hb dX12_rests_65 (by decide) ?_
                refine ztop (.int 0) (congrArg Value.int (by decide)) ?_
                refine lv_istore (lv' := [(7, .int 0), (6, .int 1), (5, .int 2), (4, .int 1), (0, .ref h0), (1, .int p1), (2, .int p2), (3, .int p3)]) hx hb dX12_rests_66 hl (by decide) rfl (fun ls hl => ?_)
                refine lv_iload_n hx hb dX12_rests_68 rfl (lv_at hl 5 rfl) ?_
                refine lv_iload_n hx hb dX12_rests_69 rfl (lv_at hl 6 rfl) ?_
                refine lv_iconst (v := 1) hx hb dX12_rests_70 (by decide) ?_
                refine lv_iload hx hb dX12_rests_71 (lv_at hl 1 rfl) ?_
                refine lv_isub hx hb dX12_rests_73 ?_
                refine ztop (.int 0) (congrArg Value.int (by decide)) ?_
                refine lv_iload hx hb dX12_rests_74 (lv_at hl 0 rfl) ?_
                refine scall0 (As := [.int p1, .int p2, .int 0, .int 0]) (rest := []) ⟨hx, hb, hml, hown, hts⟩ (c_mg00 l D ct p1 p2) (va_cwS 4 hts gX12_rests_X12_guardGets rfl rfl rfl (by decide +kernel) ⟨Nat.le_of_ble_eq_true rfl, Nat.le_of_ble_eq_true rfl⟩) hw hS hA hK hN rfl rfl hl.1 rfl (Nat.le_of_ble_eq_true rfl) dX12_rests_76 (fun _ H locs hp75 hw hS => ?_)
                have hw : zPD D A [(h0, .inr (11, [.int 0, .int w_taped, .ref (y 0), .int w_size, .int w_place, .int w_begin, .int w_token, .long w_word, .int w_told, .int w_wrong, .ref (y 1), .ref (y 2), .ref (y 3), .ref (y 4), .ref (y 5), .ref (y 6), .ref (y 7), .ref (y 8), .ref (y 9), .ref (y 10), .ref (y 11), .ref (y 12), .int w_code, .int w_toldLines, .ref (y 13), .ref (y 14), .ref (y 15), .ref (y 16), .ref (y 17), .ref (y 18), .ref (y 19), .ref (y 20), .ref (y 21), .ref (y 22), .ref (y 23), .ref (y 24), .int w_given, .long w_fresh, .ref (y 25), .ref (y 26), .ref (y 27), .ref (y 28), .ref (y 29), .ref (y 30), .ref (y 31), .ref (y 32), .ref (y 33), .ref (y 34), .ref (y 35), .ref (y 36), .ref (y 37), .int w_done, .int w_moreAsked, .ref (y 38), .long w_g, .int w_gone, .int w_stopped]))] H := hw
                refine zfr 79 [.int 0] rfl rfl ?_
                refine lv_iload_n hx hb dX12_rests_79 rfl (lv_at hl 5 rfl) ?_
                refine lv_iload_n hx hb dX12_rests_80 rfl (lv_at hl 6 rfl) ?_
                refine lv_iload hx hb dX12_rests_81 (lv_at hl 1 rfl) ?_
                refine lv_iload hx hb dX12_rests_83 (lv_at hl 0 rfl) ?_
                refine scall0 (As := [.int p1, .int p2, .int 1, .int 0]) (rest := [.int 0]) ⟨hx, hb, hml, hown, hts⟩ (c_mg10 l D ct p1 p2) (va_cwS 4 hts gX12_rests_X12_guardGets rfl rfl rfl (by decide +kernel) ⟨Nat.le_of_ble_eq_true rfl, Nat.le_of_ble_eq_true rfl⟩) hw hS hA hK hN rfl rfl hl.1 rfl (Nat.le_of_ble_eq_true rfl) dX12_rests_85 (fun _ H locs hp76 hw hS => ?_)
                have hw : zPD D A [(h0, .inr (11, [.int 0, .int w_taped, .ref (y 0), .int w_size, .int w_place, .int w_begin, .int w_token, .long w_word, .int w_told, .int w_wrong, .ref (y 1), .ref (y 2), .ref (y 3), .ref (y 4), .ref (y 5), .ref (y 6), .ref (y 7), .ref (y 8), .ref (y 9), .ref (y 10), .ref (y 11), .ref (y 12), .int w_code, .int w_toldLines, .ref (y 13), .ref (y 14), .ref (y 15), .ref (y 16), .ref (y 17), .ref (y 18), .ref (y 19), .ref (y 20), .ref (y 21), .ref (y 22), .ref (y 23), .ref (y 24), .int w_given, .long w_fresh, .ref (y 25), .ref (y 26), .ref (y 27), .ref (y 28), .ref (y 29), .ref (y 30), .ref (y 31), .ref (y 32), .ref (y 33), .ref (y 34), .ref (y 35), .ref (y 36), .ref (y 37), .int w_done, .int w_moreAsked, .ref (y 38), .long w_g, .int w_gone, .int w_stopped]))] H := hw
                refine zfr 88 [.int (-1), .int 0] rfl rfl ?_
                refine lv_icmp_gt (tgt := 129) hx hb dX12_rests_88 (by decide) (fun _ => ?_) (fun h => absurd (by decide) h)
                refine lv_iinc (v := 3) (lv' := [(5, .int 3), (7, .int 0), (6, .int 1), (4, .int 1), (0, .ref h0), (1, .int p1), (2, .int p2), (3, .int p3)]) hx hb dX12_rests_129 hl (k := 2) rfl (by decide) (by decide) rfl (fun ls hl => ?_)
                refine lv_goto (tgt := 50) hx hb dX12_rests_132 (by decide) ?_
                refine lv_iload hx hb dX12_rests_50 (lv_at hl 0 rfl) ?_
                refine lv_iconst (v := 4) hx hb dX12_rests_52 (by decide) ?_
                refine lv_icmp_ge (tgt := 135) hx hb dX12_rests_53 (by decide) (fun h => absurd h (by decide)) (fun _ => ?_)
                refine lv_iload hx hb dX12_rests_56 (lv_at hl 0 rfl) ?_
                refine lv_iconst (v := 2) hx hb dX12_rests_58 (by decide) ?_
                refine lv_idiv hx hb dX12_rests_59 (by decide) ?_
                refine ztop (.int 1) (congrArg Value.int (by decide)) ?_
                refine lv_istore (lv' := [(6, .int 1), (5, .int 3), (7, .int 0), (4, .int 1), (0, .ref h0), (1, .int p1), (2, .int p2), (3, .int p3)]) hx hb dX12_rests_60 hl (by decide) rfl (fun ls hl => ?_)
                refine lv_iload hx hb dX12_rests_62 (lv_at hl 1 rfl) ?_
                refine lv_iconst (v := 2) hx hb dX12_rests_64 (by decide) ?_
                refine lv_irem hx hb dX12_rests_65 (by decide) ?_
                refine ztop (.int 1) (congrArg Value.int (by decide)) ?_
                refine lv_istore (lv' := [(7, .int 1), (6, .int 1), (5, .int 3), (4, .int 1), (0, .ref h0), (1, .int p1), (2, .int p2), (3, .int p3)]) hx hb dX12_rests_66 hl (by decide) rfl (fun ls hl => ?_)
                refine lv_iload_n hx hb dX12_rests_68 rfl (lv_at hl 5 rfl) ?_
                refine lv_iload_n hx hb dX12_rests_69 rfl (lv_at hl 6 rfl) ?_
                refine lv_iconst (v := 1) hx hb dX12_rests_70 (by decide) ?_
                refine lv_iload hx hb dX12_rests_71 (lv_at hl 1 rfl) ?_
                refine lv_isub hx hb dX12_rests_73 ?_
                refine ztop (.int 0) (congrArg Value.int (by decide)) ?_
                refine lv_iload hx hb dX12_rests_74 (lv_at hl 0 rfl) ?_
                refine scall0 (As := [.int p1, .int p2, .int 0, .int 1]) (rest := []) ⟨hx, hb, hml, hown, hts⟩ (c_mg01 l D ct p1 p2) (va_cwS 4 hts gX12_rests_X12_guardGets rfl rfl rfl (by decide +kernel) ⟨Nat.le_of_ble_eq_true rfl, Nat.le_of_ble_eq_true rfl⟩) hw hS hA hK hN rfl rfl hl.1 rfl (Nat.le_of_ble_eq_true rfl) dX12_rests_76 (fun _ H locs hp79 hw hS => ?_)
                have hw : zPD D A [(h0, .inr (11, [.int 0, .int w_taped, .ref (y 0), .int w_size, .int w_place, .int w_begin, .int w_token, .long w_word, .int w_told, .int w_wrong, .ref (y 1), .ref (y 2), .ref (y 3), .ref (y 4), .ref (y 5), .ref (y 6), .ref (y 7), .ref (y 8), .ref (y 9), .ref (y 10), .ref (y 11), .ref (y 12), .int w_code, .int w_toldLines, .ref (y 13), .ref (y 14), .ref (y 15), .ref (y 16), .ref (y 17), .ref (y 18), .ref (y 19), .ref (y 20), .ref (y 21), .ref (y 22), .ref (y 23), .ref (y 24), .int w_given, .long w_fresh, .ref (y 25), .ref (y 26), .ref (y 27), .ref (y 28), .ref (y 29), .ref (y 30), .ref (y 31), .ref (y 32), .ref (y 33), .ref (y 34), .ref (y 35), .ref (y 36), .ref (y 37), .int w_done, .int w_moreAsked, .ref (y 38), .long w_g, .int w_gone, .int w_stopped]))] H := hw
                refine zfr 79 [.int (-p2)] rfl rfl ?_
                refine lv_iload_n hx hb dX12_rests_79 rfl (lv_at hl 5 rfl) ?_
                refine lv_iload_n hx hb dX12_rests_80 rfl (lv_at hl 6 rfl) ?_
                refine lv_iload hx hb dX12_rests_81 (lv_at hl 1 rfl) ?_
                refine lv_iload hx hb dX12_rests_83 (lv_at hl 0 rfl) ?_
                refine scall0 (As := [.int p1, .int p2, .int 1, .int 1]) (rest := [.int (-p2)]) ⟨hx, hb, hml, hown, hts⟩ (c_mg11 l D ct p1 p2) (va_cwS 4 hts gX12_rests_X12_guardGets rfl rfl rfl (by decide +kernel) ⟨Nat.le_of_ble_eq_true rfl, Nat.le_of_ble_eq_true rfl⟩) hw hS hA hK hN rfl rfl hl.1 rfl (Nat.le_of_ble_eq_true rfl) dX12_rests_85 (fun _ H locs hp80 hw hS => ?_)
                have hw : zPD D A [(h0, .inr (11, [.int 0, .int w_taped, .ref (y 0), .int w_size, .int w_place, .int w_begin, .int w_token, .long w_word, .int w_told, .int w_wrong, .ref (y 1), .ref (y 2), .ref (y 3), .ref (y 4), .ref (y 5), .ref (y 6), .ref (y 7), .ref (y 8), .ref (y 9), .ref (y 10), .ref (y 11), .ref (y 12), .int w_code, .int w_toldLines, .ref (y 13), .ref (y 14), .ref (y 15), .ref (y 16), .ref (y 17), .ref (y 18), .ref (y 19), .ref (y 20), .ref (y 21), .ref (y 22), .ref (y 23), .ref (y 24), .int w_given, .long w_fresh, .ref (y 25), .ref (y 26), .ref (y 27), .ref (y 28), .ref (y 29), .ref (y 30), .ref (y 31), .ref (y 32), .ref (y 33), .ref (y 34), .ref (y 35), .ref (y 36), .ref (y 37), .int w_done, .int w_moreAsked, .ref (y 38), .long w_g, .int w_gone, .int w_stopped]))] H := hw
                refine zfr 88 [.int p1, .int (-p2)] rfl rfl ?_
                refine lv_icmp_gt (tgt := 129) hx hb dX12_rests_88 (by decide) (fun c_81 => ?_) (fun c_81 => ?_)
                · refine lv_iinc (v := 4) (lv' := [(5, .int 4), (7, .int 1), (6, .int 1), (4, .int 1), (0, .ref h0), (1, .int p1), (2, .int p2), (3, .int p3)]) hx hb dX12_rests_129 hl (k := 2) rfl (by decide) (by decide) rfl (fun ls hl => ?_)
                  refine lv_goto (tgt := 50) hx hb dX12_rests_132 (by decide) ?_
                  refine lv_iload hx hb dX12_rests_50 (lv_at hl 0 rfl) ?_
                  refine lv_iconst (v := 4) hx hb dX12_rests_52 (by decide) ?_
                  refine lv_icmp_ge (tgt := 135) hx hb dX12_rests_53 (by decide) (fun _ => ?_) (fun h => absurd (by decide) h)
                  refine lv_aload_n hx hb dX12_rests_135 rfl (lv_at hl 4 rfl) ?_
                  refine lv_iload_n hx hb dX12_rests_136 rfl (lv_at hl 7 rfl) ?_
                  refine lv_iconst (v := (-1)) hx hb dX12_rests_137 (by decide) ?_
                  refine lv_icmp_ne (tgt := 145) hx hb dX12_rests_138 (by decide) (fun c_83 => ?_) (fun c_83 => ?_)
                  · refine lv_iconst (v := 1) hx hb dX12_rests_145 (by decide) ?_
                    refine zput (D := D) (ci := 11) (v := .int 1) (ty := .int) hx hb hts hiX12 tyX12 tyX12_ok nmX12 hown hK hw hS 0 rfl rfl 0 (by decide) (hts (.fieldLink RX12 129 "BeardPassModel" "thrown" "I") (by decide +kernel)) (fun _ h9 => h9) rfl (by decide +kernel) rfl rfl (Nat.le_of_ble_eq_true rfl) dX12_rests_146 [(h0, .inr (11, [.int 1, .int w_taped, .ref (y 0), .int w_size, .int w_place, .int w_begin, .int w_token, .long w_word, .int w_told, .int w_wrong, .ref (y 1), .ref (y 2), .ref (y 3), .ref (y 4), .ref (y 5), .ref (y 6), .ref (y 7), .ref (y 8), .ref (y 9), .ref (y 10), .ref (y 11), .ref (y 12), .int w_code, .int w_toldLines, .ref (y 13), .ref (y 14), .ref (y 15), .ref (y 16), .ref (y 17), .ref (y 18), .ref (y 19), .ref (y 20), .ref (y 21), .ref (y 22), .ref (y 23), .ref (y 24), .int w_given, .long w_fresh, .ref (y 25), .ref (y 26), .ref (y 27), .ref (y 28), .ref (y 29), .ref (y 30), .ref (y 31), .ref (y 32), .ref (y 33), .ref (y 34), .ref (y 35), .ref (y 36), .ref (y 37), .int w_done, .int w_moreAsked, .ref (y 38), .long w_g, .int w_gone, .int w_stopped]))] rfl (fun H locs hw hS => ?_)
                    refine lv_iload_n hx hb dX12_rests_149 rfl (lv_at hl 7 rfl) ?_
                    refine lv_iconst (v := (-1)) hx hb dX12_rests_150 (by decide) ?_
                    refine lv_icmp_ne (tgt := 159) hx hb dX12_rests_151 (by decide) (fun _ => ?_) (fun h => absurd h (c_83))
                    refine lv_iconst (v := 0) hx hb dX12_rests_159 (by decide) ?_
                    exact ziret hx hb hr (rfl) hlocks () (congrArg (fun z => some (Value.int z)) (zrv_none (by rw [zrs, if_neg c_2, if_neg c_5, if_pos (zsge (r := p1) (w := p2) c_7), zrq0, if_neg (show ¬ zat0 p2 = 0 by rw [zat0, if_pos c_16]; decide), if_neg c_17, zrq1, if_pos (show zat1 p1 p2 = 0 from (if_neg c_21).trans (if_neg c_48)), zrq3, if_pos (show zat3 p1 p2 = 0 from if_pos c_81), zrq4, if_neg c_83]))) (trivial) hw [0] rfl (by rw [show zth p1 p2 p3 = 1 from zth_none (by rw [zrs, if_neg c_2, if_neg c_5, if_pos (zsge (r := p1) (w := p2) c_7), zrq0, if_neg (show ¬ zat0 p2 = 0 by rw [zat0, if_pos c_16]; decide), if_neg c_17, zrq1, if_pos (show zat1 p1 p2 = 0 from (if_neg c_21).trans (if_neg c_48)), zrq3, if_pos (show zat3 p1 p2 = 0 from if_pos c_81), zrq4, if_neg c_83])]; rfl) hS (Nat.le_of_ble_eq_true rfl) (Nat.le_of_ble_eq_true rfl) dX12_rests_160
                  · refine lv_iconst (v := 0) hx hb dX12_rests_141 (by decide) ?_
                    refine lv_goto (tgt := 146) hx hb dX12_rests_142 (by decide) ?_
                    refine zput (D := D) (ci := 11) (v := .int 0) (ty := .int) hx hb hts hiX12 tyX12 tyX12_ok nmX12 hown hK hw hS 0 rfl rfl 0 (by decide) (hts (.fieldLink RX12 129 "BeardPassModel" "thrown" "I") (by decide +kernel)) (fun _ h9 => h9) rfl (by decide +kernel) rfl rfl (Nat.le_of_ble_eq_true rfl) dX12_rests_146 [(h0, .inr (11, [.int 0, .int w_taped, .ref (y 0), .int w_size, .int w_place, .int w_begin, .int w_token, .long w_word, .int w_told, .int w_wrong, .ref (y 1), .ref (y 2), .ref (y 3), .ref (y 4), .ref (y 5), .ref (y 6), .ref (y 7), .ref (y 8), .ref (y 9), .ref (y 10), .ref (y 11), .ref (y 12), .int w_code, .int w_toldLines, .ref (y 13), .ref (y 14), .ref (y 15), .ref (y 16), .ref (y 17), .ref (y 18), .ref (y 19), .ref (y 20), .ref (y 21), .ref (y 22), .ref (y 23), .ref (y 24), .int w_given, .long w_fresh, .ref (y 25), .ref (y 26), .ref (y 27), .ref (y 28), .ref (y 29), .ref (y 30), .ref (y 31), .ref (y 32), .ref (y 33), .ref (y 34), .ref (y 35), .ref (y 36), .ref (y 37), .int w_done, .int w_moreAsked, .ref (y 38), .long w_g, .int w_gone, .int w_stopped]))] rfl (fun H locs hw hS => ?_)
                    refine lv_iload_n hx hb dX12_rests_149 rfl (lv_at hl 7 rfl) ?_
                    refine lv_iconst (v := (-1)) hx hb dX12_rests_150 (by decide) ?_
                    refine lv_icmp_ne (tgt := 159) hx hb dX12_rests_151 (by decide) (fun h => absurd (c_83) h) (fun _ => ?_)
                    refine lv_iload hx hb dX12_rests_154 (lv_at hl 3 rfl) ?_
                    refine lv_goto (tgt := 160) hx hb dX12_rests_156 (by decide) ?_
                    exact ziret hx hb hr (rfl) hlocks () (congrArg (fun z => some (Value.int z)) (zrv_some (by rw [zrs, if_neg c_2, if_neg c_5, if_pos (zsge (r := p1) (w := p2) c_7), zrq0, if_neg (show ¬ zat0 p2 = 0 by rw [zat0, if_pos c_16]; decide), if_neg c_17, zrq1, if_pos (show zat1 p1 p2 = 0 from (if_neg c_21).trans (if_neg c_48)), zrq3, if_pos (show zat3 p1 p2 = 0 from if_pos c_81), zrq4, if_pos c_83]))) (trivial) hw [0] rfl (by rw [show zth p1 p2 p3 = 0 from zth_some (v := 1) (by rw [zrs, if_neg c_2, if_neg c_5, if_pos (zsge (r := p1) (w := p2) c_7), zrq0, if_neg (show ¬ zat0 p2 = 0 by rw [zat0, if_pos c_16]; decide), if_neg c_17, zrq1, if_pos (show zat1 p1 p2 = 0 from (if_neg c_21).trans (if_neg c_48)), zrq3, if_pos (show zat3 p1 p2 = 0 from if_pos c_81), zrq4, if_pos c_83])]; rfl) hS (Nat.le_of_ble_eq_true rfl) (Nat.le_of_ble_eq_true rfl) dX12_rests_160
                · refine lv_iload_n hx hb dX12_rests_91 rfl (lv_at hl 5 rfl) ?_
                  refine lv_iload_n hx hb dX12_rests_92 rfl (lv_at hl 6 rfl) ?_
                  refine lv_iload hx hb dX12_rests_93 (lv_at hl 1 rfl) ?_
                  refine lv_iconst (v := 1) hx hb dX12_rests_95 (by decide) ?_
                  refine lv_iload hx hb dX12_rests_96 (lv_at hl 0 rfl) ?_
                  refine lv_isub hx hb dX12_rests_98 ?_
                  refine ztop (.int 0) (congrArg Value.int (by decide)) ?_
                  refine scall0 (As := [.int p1, .int p2, .int 1, .int 0]) (rest := []) ⟨hx, hb, hml, hown, hts⟩ (c_mt10 l D ct p1 p2) (va_cwS 4 hts gX12_rests_X12_travellerGets rfl rfl rfl (by decide +kernel) ⟨Nat.le_of_ble_eq_true rfl, Nat.le_of_ble_eq_true rfl⟩) hw hS hA hK hN rfl rfl hl.1 rfl (Nat.le_of_ble_eq_true rfl) dX12_rests_99 (fun _ H locs hp86 hw hS => ?_)
                  have hw : zPD D A [(h0, .inr (11, [.int 0, .int w_taped, .ref (y 0), .int w_size, .int w_place, .int w_begin, .int w_token, .long w_word, .int w_told, .int w_wrong, .ref (y 1), .ref (y 2), .ref (y 3), .ref (y 4), .ref (y 5), .ref (y 6), .ref (y 7), .ref (y 8), .ref (y 9), .ref (y 10), .ref (y 11), .ref (y 12), .int w_code, .int w_toldLines, .ref (y 13), .ref (y 14), .ref (y 15), .ref (y 16), .ref (y 17), .ref (y 18), .ref (y 19), .ref (y 20), .ref (y 21), .ref (y 22), .ref (y 23), .ref (y 24), .int w_given, .long w_fresh, .ref (y 25), .ref (y 26), .ref (y 27), .ref (y 28), .ref (y 29), .ref (y 30), .ref (y 31), .ref (y 32), .ref (y 33), .ref (y 34), .ref (y 35), .ref (y 36), .ref (y 37), .int w_done, .int w_moreAsked, .ref (y 38), .long w_g, .int w_gone, .int w_stopped]))] H := hw
                  refine zfr 102 [.int 0] rfl rfl ?_
                  refine lv_iload_n hx hb dX12_rests_102 rfl (lv_at hl 5 rfl) ?_
                  refine lv_iload_n hx hb dX12_rests_103 rfl (lv_at hl 6 rfl) ?_
                  refine lv_iload hx hb dX12_rests_104 (lv_at hl 1 rfl) ?_
                  refine lv_iload hx hb dX12_rests_106 (lv_at hl 0 rfl) ?_
                  refine scall0 (As := [.int p1, .int p2, .int 1, .int 1]) (rest := [.int 0]) ⟨hx, hb, hml, hown, hts⟩ (c_mt11 l D ct p1 p2) (va_cwS 4 hts gX12_rests_X12_travellerGets rfl rfl rfl (by decide +kernel) ⟨Nat.le_of_ble_eq_true rfl, Nat.le_of_ble_eq_true rfl⟩) hw hS hA hK hN rfl rfl hl.1 rfl (Nat.le_of_ble_eq_true rfl) dX12_rests_108 (fun _ H locs hp87 hw hS => ?_)
                  have hw : zPD D A [(h0, .inr (11, [.int 0, .int w_taped, .ref (y 0), .int w_size, .int w_place, .int w_begin, .int w_token, .long w_word, .int w_told, .int w_wrong, .ref (y 1), .ref (y 2), .ref (y 3), .ref (y 4), .ref (y 5), .ref (y 6), .ref (y 7), .ref (y 8), .ref (y 9), .ref (y 10), .ref (y 11), .ref (y 12), .int w_code, .int w_toldLines, .ref (y 13), .ref (y 14), .ref (y 15), .ref (y 16), .ref (y 17), .ref (y 18), .ref (y 19), .ref (y 20), .ref (y 21), .ref (y 22), .ref (y 23), .ref (y 24), .int w_given, .long w_fresh, .ref (y 25), .ref (y 26), .ref (y 27), .ref (y 28), .ref (y 29), .ref (y 30), .ref (y 31), .ref (y 32), .ref (y 33), .ref (y 34), .ref (y 35), .ref (y 36), .ref (y 37), .int w_done, .int w_moreAsked, .ref (y 38), .long w_g, .int w_gone, .int w_stopped]))] H := hw
                  refine zfr 111 [.int (-p1), .int 0] rfl rfl ?_
                  refine lv_icmp_le (tgt := 117) hx hb dX12_rests_111 (by decide) (fun c_88 => ?_) (fun c_88 => ?_)
                  · refine lv_iload hx hb dX12_rests_117 (lv_at hl 3 rfl) ?_
                    refine lv_iload_n hx hb dX12_rests_119 rfl (lv_at hl 7 rfl) ?_
                    refine lv_icmp_ne (tgt := 126) hx hb dX12_rests_120 (by decide) (fun c_89 => ?_) (fun c_89 => ?_)
                    · refine lv_iinc (v := 2) (lv' := [(4, .int 2), (7, .int 1), (6, .int 1), (5, .int 3), (0, .ref h0), (1, .int p1), (2, .int p2), (3, .int p3)]) hx hb dX12_rests_126 hl (k := 3) rfl (by decide) (by decide) rfl (fun ls hl => ?_)
                      refine lv_iinc (v := 4) (lv' := [(5, .int 4), (4, .int 2), (7, .int 1), (6, .int 1), (0, .ref h0), (1, .int p1), (2, .int p2), (3, .int p3)]) hx hb dX12_rests_129 hl (k := 3) rfl (by decide) (by decide) rfl (fun ls hl => ?_)
                      refine lv_goto (tgt := 50) hx hb dX12_rests_132 (by decide) ?_
                      refine lv_iload hx hb dX12_rests_50 (lv_at hl 0 rfl) ?_
                      refine lv_iconst (v := 4) hx hb dX12_rests_52 (by decide) ?_
                      refine lv_icmp_ge (tgt := 135) hx hb dX12_rests_53 (by decide) (fun _ => ?_) (fun h => absurd (by decide) h)
                      refine lv_aload_n hx hb dX12_rests_135 rfl (lv_at hl 4 rfl) ?_
                      refine lv_iload_n hx hb dX12_rests_136 rfl (lv_at hl 7 rfl) ?_
                      refine lv_iconst (v := (-1)) hx hb dX12_rests_137 (by decide) ?_
                      refine lv_icmp_ne (tgt := 145) hx hb dX12_rests_138 (by decide) (fun c_91 => ?_) (fun c_91 => ?_)
                      · refine lv_iconst (v := 1) hx hb dX12_rests_145 (by decide) ?_
                        refine zput (D := D) (ci := 11) (v := .int 1) (ty := .int) hx hb hts hiX12 tyX12 tyX12_ok nmX12 hown hK hw hS 0 rfl rfl 0 (by decide) (hts (.fieldLink RX12 129 "BeardPassModel" "thrown" "I") (by decide +kernel)) (fun _ h9 => h9) rfl (by decide +kernel) rfl rfl (Nat.le_of_ble_eq_true rfl) dX12_rests_146 [(h0, .inr (11, [.int 1, .int w_taped, .ref (y 0), .int w_size, .int w_place, .int w_begin, .int w_token, .long w_word, .int w_told, .int w_wrong, .ref (y 1), .ref (y 2), .ref (y 3), .ref (y 4), .ref (y 5), .ref (y 6), .ref (y 7), .ref (y 8), .ref (y 9), .ref (y 10), .ref (y 11), .ref (y 12), .int w_code, .int w_toldLines, .ref (y 13), .ref (y 14), .ref (y 15), .ref (y 16), .ref (y 17), .ref (y 18), .ref (y 19), .ref (y 20), .ref (y 21), .ref (y 22), .ref (y 23), .ref (y 24), .int w_given, .long w_fresh, .ref (y 25), .ref (y 26), .ref (y 27), .ref (y 28), .ref (y 29), .ref (y 30), .ref (y 31), .ref (y 32), .ref (y 33), .ref (y 34), .ref (y 35), .ref (y 36), .ref (y 37), .int w_done, .int w_moreAsked, .ref (y 38), .long w_g, .int w_gone, .int w_stopped]))] rfl (fun H locs hw hS => ?_)
                        refine lv_iload_n hx hb dX12_rests_149 rfl (lv_at hl 7 rfl) ?_
                        refine lv_iconst (v := (-1)) hx hb dX12_rests_150 (by decide) ?_
                        refine lv_icmp_ne (tgt := 159) hx hb dX12_rests_151 (by decide) (fun _ => ?_) (fun h => absurd h (c_91))
                        refine lv_iconst (v := 0) hx hb dX12_rests_159 (by decide) ?_
                        exact ziret hx hb hr (rfl) hlocks () (congrArg (fun z => some (Value.int z)) (zrv_none (by rw [zrs, if_neg c_2, if_neg c_5, if_pos (zsge (r := p1) (w := p2) c_7), zrq0, if_neg (show ¬ zat0 p2 = 0 by rw [zat0, if_pos c_16]; decide), if_neg c_17, zrq1, if_pos (show zat1 p1 p2 = 0 from (if_neg c_21).trans (if_neg c_48)), zrq3, if_neg (show ¬ zat3 p1 p2 = 0 by rw [zat3, if_neg c_81, if_pos c_88]; decide), if_neg c_89, zrq4, if_neg c_91]))) (trivial) hw [0] rfl (by rw [show zth p1 p2 p3 = 1 from zth_none (by rw [zrs, if_neg c_2, if_neg c_5, if_pos (zsge (r := p1) (w := p2) c_7), zrq0, if_neg (show ¬ zat0 p2 = 0 by rw [zat0, if_pos c_16]; decide), if_neg c_17, zrq1, if_pos (show zat1 p1 p2 = 0 from (if_neg c_21).trans (if_neg c_48)), zrq3, if_neg (show ¬ zat3 p1 p2 = 0 by rw [zat3, if_neg c_81, if_pos c_88]; decide), if_neg c_89, zrq4, if_neg c_91])]; rfl) hS (Nat.le_of_ble_eq_true rfl) (Nat.le_of_ble_eq_true rfl) dX12_rests_160
                      · refine lv_iconst (v := 0) hx hb dX12_rests_141 (by decide) ?_
                        refine lv_goto (tgt := 146) hx hb dX12_rests_142 (by decide) ?_
                        refine zput (D := D) (ci := 11) (v := .int 0) (ty := .int) hx hb hts hiX12 tyX12 tyX12_ok nmX12 hown hK hw hS 0 rfl rfl 0 (by decide) (hts (.fieldLink RX12 129 "BeardPassModel" "thrown" "I") (by decide +kernel)) (fun _ h9 => h9) rfl (by decide +kernel) rfl rfl (Nat.le_of_ble_eq_true rfl) dX12_rests_146 [(h0, .inr (11, [.int 0, .int w_taped, .ref (y 0), .int w_size, .int w_place, .int w_begin, .int w_token, .long w_word, .int w_told, .int w_wrong, .ref (y 1), .ref (y 2), .ref (y 3), .ref (y 4), .ref (y 5), .ref (y 6), .ref (y 7), .ref (y 8), .ref (y 9), .ref (y 10), .ref (y 11), .ref (y 12), .int w_code, .int w_toldLines, .ref (y 13), .ref (y 14), .ref (y 15), .ref (y 16), .ref (y 17), .ref (y 18), .ref (y 19), .ref (y 20), .ref (y 21), .ref (y 22), .ref (y 23), .ref (y 24), .int w_given, .long w_fresh, .ref (y 25), .ref (y 26), .ref (y 27), .ref (y 28), .ref (y 29), .ref (y 30), .ref (y 31), .ref (y 32), .ref (y 33), .ref (y 34), .ref (y 35), .ref (y 36), .ref (y 37), .int w_done, .int w_moreAsked, .ref (y 38), .long w_g, .int w_gone, .int w_stopped]))] rfl (fun H locs hw hS => ?_)
                        refine lv_iload_n hx hb dX12_rests_149 rfl (lv_at hl 7 rfl) ?_
                        refine lv_iconst (v := (-1)) hx hb dX12_rests_150 (by decide) ?_
                        refine lv_icmp_ne (tgt := 159) hx hb dX12_rests_151 (by decide) (fun h => absurd (c_91) h) (fun _ => ?_)
                        refine lv_iload hx hb dX12_rests_154 (lv_at hl 1 rfl) ?_
                        refine lv_goto (tgt := 160) hx hb dX12_rests_156 (by decide) ?_
                        exact ziret hx hb hr (rfl) hlocks () (congrArg (fun z => some (Value.int z)) (zrv_some (by rw [zrs, if_neg c_2, if_neg c_5, if_pos (zsge (r := p1) (w := p2) c_7), zrq0, if_neg (show ¬ zat0 p2 = 0 by rw [zat0, if_pos c_16]; decide), if_neg c_17, zrq1, if_pos (show zat1 p1 p2 = 0 from (if_neg c_21).trans (if_neg c_48)), zrq3, if_neg (show ¬ zat3 p1 p2 = 0 by rw [zat3, if_neg c_81, if_pos c_88]; decide), if_neg c_89, zrq4, if_pos c_91]))) (trivial) hw [0] rfl (by rw [show zth p1 p2 p3 = 0 from zth_some (v := 2) (by rw [zrs, if_neg c_2, if_neg c_5, if_pos (zsge (r := p1) (w := p2) c_7), zrq0, if_neg (show ¬ zat0 p2 = 0 by rw [zat0, if_pos c_16]; decide), if_neg c_17, zrq1, if_pos (show zat1 p1 p2 = 0 from (if_neg c_21).trans (if_neg c_48)), zrq3, if_neg (show ¬ zat3 p1 p2 = 0 by rw [zat3, if_neg c_81, if_pos c_88]; decide), if_neg c_89, zrq4, if_pos c_91])]; rfl) hS (Nat.le_of_ble_eq_true rfl) (Nat.le_of_ble_eq_true rfl) dX12_rests_160
                    · refine lv_iload hx hb dX12_rests_123 (lv_at hl 2 rfl) ?_
                      exact ziret hx hb hr (rfl) hlocks () (congrArg (fun z => some (Value.int z)) (zrv_some (by rw [zrs, if_neg c_2, if_neg c_5, if_pos (zsge (r := p1) (w := p2) c_7), zrq0, if_neg (show ¬ zat0 p2 = 0 by rw [zat0, if_pos c_16]; decide), if_neg c_17, zrq1, if_pos (show zat1 p1 p2 = 0 from (if_neg c_21).trans (if_neg c_48)), zrq3, if_neg (show ¬ zat3 p1 p2 = 0 by rw [zat3, if_neg c_81, if_pos c_88]; decide), if_pos c_89]))) (trivial) hw [0] rfl (by rw [show zth p1 p2 p3 = 0 from zth_some (v := 3) (by rw [zrs, if_neg c_2, if_neg c_5, if_pos (zsge (r := p1) (w := p2) c_7), zrq0, if_neg (show ¬ zat0 p2 = 0 by rw [zat0, if_pos c_16]; decide), if_neg c_17, zrq1, if_pos (show zat1 p1 p2 = 0 from (if_neg c_21).trans (if_neg c_48)), zrq3, if_neg (show ¬ zat3 p1 p2 = 0 by rw [zat3, if_neg c_81, if_pos c_88]; decide), if_pos c_89])]; rfl) hS (Nat.le_of_ble_eq_true rfl) (Nat.le_of_ble_eq_true rfl) dX12_rests_125
                  · refine lv_goto (tgt := 129) hx hb dX12_rests_114 (by decide) ?_
                    refine lv_iinc (v := 4) (lv' := [(5, .int 4), (7, .int 1), (6, .int 1), (4, .int 1), (0, .ref h0), (1, .int p1), (2, .int p2), (3, .int p3)]) hx hb dX12_rests_129 hl (k := 2) rfl (by decide) (by decide) rfl (fun ls hl => ?_)
                    refine lv_goto (tgt := 50) hx hb dX12_rests_132 (by decide) ?_
                    refine lv_iload hx hb dX12_rests_50 (lv_at hl 0 rfl) ?_
                    refine lv_iconst (v := 4) hx hb dX12_rests_52 (by decide) ?_
                    refine lv_icmp_ge (tgt := 135) hx hb dX12_rests_53 (by decide) (fun _ => ?_) (fun h => absurd (by decide) h)
                    refine lv_aload_n hx hb dX12_rests_135 rfl (lv_at hl 4 rfl) ?_
                    refine lv_iload_n hx hb dX12_rests_136 rfl (lv_at hl 7 rfl) ?_
                    refine lv_iconst (v := (-1)) hx hb dX12_rests_137 (by decide) ?_
                    refine lv_icmp_ne (tgt := 145) hx hb dX12_rests_138 (by decide) (fun c_95 => ?_) (fun c_95 => ?_)
                    · refine lv_iconst (v := 1) hx hb dX12_rests_145 (by decide) ?_
                      refine zput (D := D) (ci := 11) (v := .int 1) (ty := .int) hx hb hts hiX12 tyX12 tyX12_ok nmX12 hown hK hw hS 0 rfl rfl 0 (by decide) (hts (.fieldLink RX12 129 "BeardPassModel" "thrown" "I") (by decide +kernel)) (fun _ h9 => h9) rfl (by decide +kernel) rfl rfl (Nat.le_of_ble_eq_true rfl) dX12_rests_146 [(h0, .inr (11, [.int 1, .int w_taped, .ref (y 0), .int w_size, .int w_place, .int w_begin, .int w_token, .long w_word, .int w_told, .int w_wrong, .ref (y 1), .ref (y 2), .ref (y 3), .ref (y 4), .ref (y 5), .ref (y 6), .ref (y 7), .ref (y 8), .ref (y 9), .ref (y 10), .ref (y 11), .ref (y 12), .int w_code, .int w_toldLines, .ref (y 13), .ref (y 14), .ref (y 15), .ref (y 16), .ref (y 17), .ref (y 18), .ref (y 19), .ref (y 20), .ref (y 21), .ref (y 22), .ref (y 23), .ref (y 24), .int w_given, .long w_fresh, .ref (y 25), .ref (y 26), .ref (y 27), .ref (y 28), .ref (y 29), .ref (y 30), .ref (y 31), .ref (y 32), .ref (y 33), .ref (y 34), .ref (y 35), .ref (y 36), .ref (y 37), .int w_done, .int w_moreAsked, .ref (y 38), .long w_g, .int w_gone, .int w_stopped]))] rfl (fun H locs hw hS => ?_)
                      refine lv_iload_n hx hb dX12_rests_149 rfl (lv_at hl 7 rfl) ?_
                      refine lv_iconst (v := (-1)) hx hb dX12_rests_150 (by decide) ?_
                      refine lv_icmp_ne (tgt := 159) hx hb dX12_rests_151 (by decide) (fun _ => ?_) (fun h => absurd h (c_95))
                      refine lv_iconst (v := 0) hx hb dX12_rests_159 (by decide) ?_
                      exact ziret hx hb hr (rfl) hlocks () (congrArg (fun z => some (Value.int z)) (zrv_none (by rw [zrs, if_neg c_2, if_neg c_5, if_pos (zsge (r := p1) (w := p2) c_7), zrq0, if_neg (show ¬ zat0 p2 = 0 by rw [zat0, if_pos c_16]; decide), if_neg c_17, zrq1, if_pos (show zat1 p1 p2 = 0 from (if_neg c_21).trans (if_neg c_48)), zrq3, if_pos (show zat3 p1 p2 = 0 from (if_neg c_81).trans (if_neg c_88)), zrq4, if_neg c_95]))) (trivial) hw [0] rfl (by rw [show zth p1 p2 p3 = 1 from zth_none (by rw [zrs, if_neg c_2, if_neg c_5, if_pos (zsge (r := p1) (w := p2) c_7), zrq0, if_neg (show ¬ zat0 p2 = 0 by rw [zat0, if_pos c_16]; decide), if_neg c_17, zrq1, if_pos (show zat1 p1 p2 = 0 from (if_neg c_21).trans (if_neg c_48)), zrq3, if_pos (show zat3 p1 p2 = 0 from (if_neg c_81).trans (if_neg c_88)), zrq4, if_neg c_95])]; rfl) hS (Nat.le_of_ble_eq_true rfl) (Nat.le_of_ble_eq_true rfl) dX12_rests_160
                    · refine lv_iconst (v := 0) hx hb dX12_rests_141 (by decide) ?_
                      refine lv_goto (tgt := 146) hx hb dX12_rests_142 (by decide) ?_
                      refine zput (D := D) (ci := 11) (v := .int 0) (ty := .int) hx hb hts hiX12 tyX12 tyX12_ok nmX12 hown hK hw hS 0 rfl rfl 0 (by decide) (hts (.fieldLink RX12 129 "BeardPassModel" "thrown" "I") (by decide +kernel)) (fun _ h9 => h9) rfl (by decide +kernel) rfl rfl (Nat.le_of_ble_eq_true rfl) dX12_rests_146 [(h0, .inr (11, [.int 0, .int w_taped, .ref (y 0), .int w_size, .int w_place, .int w_begin, .int w_token, .long w_word, .int w_told, .int w_wrong, .ref (y 1), .ref (y 2), .ref (y 3), .ref (y 4), .ref (y 5), .ref (y 6), .ref (y 7), .ref (y 8), .ref (y 9), .ref (y 10), .ref (y 11), .ref (y 12), .int w_code, .int w_toldLines, .ref (y 13), .ref (y 14), .ref (y 15), .ref (y 16), .ref (y 17), .ref (y 18), .ref (y 19), .ref (y 20), .ref (y 21), .ref (y 22), .ref (y 23), .ref (y 24), .int w_given, .long w_fresh, .ref (y 25), .ref (y 26), .ref (y 27), .ref (y 28), .ref (y 29), .ref (y 30), .ref (y 31), .ref (y 32), .ref (y 33), .ref (y 34), .ref (y 35), .ref (y 36), .ref (y 37), .int w_done, .int w_moreAsked, .ref (y 38), .long w_g, .int w_gone, .int w_stopped]))] rfl (fun H locs hw hS => ?_)
                      refine lv_iload_n hx hb dX12_rests_149 rfl (lv_at hl 7 rfl) ?_
                      refine lv_iconst (v := (-1)) hx hb dX12_rests_150 (by decide) ?_
                      refine lv_icmp_ne (tgt := 159) hx hb dX12_rests_151 (by decide) (fun h => absurd (c_95) h) (fun _ => ?_)
                      refine lv_iload hx hb dX12_rests_154 (lv_at hl 3 rfl) ?_
                      refine lv_goto (tgt := 160) hx hb dX12_rests_156 (by decide) ?_
                      exact ziret hx hb hr (rfl) hlocks () (congrArg (fun z => some (Value.int z)) (zrv_some (by rw [zrs, if_neg c_2, if_neg c_5, if_pos (zsge (r := p1) (w := p2) c_7), zrq0, if_neg (show ¬ zat0 p2 = 0 by rw [zat0, if_pos c_16]; decide), if_neg c_17, zrq1, if_pos (show zat1 p1 p2 = 0 from (if_neg c_21).trans (if_neg c_48)), zrq3, if_pos (show zat3 p1 p2 = 0 from (if_neg c_81).trans (if_neg c_88)), zrq4, if_pos c_95]))) (trivial) hw [0] rfl (by rw [show zth p1 p2 p3 = 0 from zth_some (v := 1) (by rw [zrs, if_neg c_2, if_neg c_5, if_pos (zsge (r := p1) (w := p2) c_7), zrq0, if_neg (show ¬ zat0 p2 = 0 by rw [zat0, if_pos c_16]; decide), if_neg c_17, zrq1, if_pos (show zat1 p1 p2 = 0 from (if_neg c_21).trans (if_neg c_48)), zrq3, if_pos (show zat3 p1 p2 = 0 from (if_neg c_81).trans (if_neg c_88)), zrq4, if_pos c_95])]; rfl) hS (Nat.le_of_ble_eq_true rfl) (Nat.le_of_ble_eq_true rfl) dX12_rests_160
          · refine lv_iload hx hb dX12_rests_123 (lv_at hl 2 rfl) ?_
            exact ziret hx hb hr (rfl) hlocks () (congrArg (fun z => some (Value.int z)) (zrv_some (by rw [zrs, if_neg c_2, if_neg c_5, if_pos (zsge (r := p1) (w := p2) c_7), zrq0, if_neg (show ¬ zat0 p2 = 0 by rw [zat0, if_pos c_16]; decide), if_pos c_17]))) (trivial) hw [0] rfl (by rw [show zth p1 p2 p3 = 0 from zth_some (v := 0) (by rw [zrs, if_neg c_2, if_neg c_5, if_pos (zsge (r := p1) (w := p2) c_7), zrq0, if_neg (show ¬ zat0 p2 = 0 by rw [zat0, if_pos c_16]; decide), if_pos c_17])]; rfl) hS (Nat.le_of_ble_eq_true rfl) (Nat.le_of_ble_eq_true rfl) dX12_rests_125
        · refine lv_goto (tgt := 129) hx hb dX12_rests_114 (by decide) ?_
          refine lv_iinc (v := 1) (lv' := [(5, .int 1), (7, .int 0), (6, .int 0), (4, .int 0), (0, .ref h0), (1, .int p1), (2, .int p2), (3, .int p3)]) hx hb dX12_rests_129 hl (k := 2) rfl (by decide) (by decide) rfl (fun ls hl => ?_)
          refine lv_goto (tgt := 50) hx hb dX12_rests_132 (by decide) ?_
          refine lv_iload hx hb dX12_rests_50 (lv_at hl 0 rfl) ?_
          refine lv_iconst (v := 4) hx hb dX12_rests_52 (by decide) ?_
          refine lv_icmp_ge (tgt := 135) hx hb dX12_rests_53 (by decide) (fun h => absurd h (by decide)) (fun _ => ?_)
          refine lv_iload hx hb dX12_rests_56 (lv_at hl 0 rfl) ?_
          refine lv_iconst (v := 2) hx hb dX12_rests_58 (by decide) ?_
          refine lv_idiv hx hb dX12_rests_59 (by decide) ?_
          refine ztop (.int 0) (congrArg Value.int (by decide)) ?_
          refine lv_istore (lv' := [(6, .int 0), (5, .int 1), (7, .int 0), (4, .int 0), (0, .ref h0), (1, .int p1), (2, .int p2), (3, .int p3)]) hx hb dX12_rests_60 hl (by decide) rfl (fun ls hl => ?_)
          refine lv_iload hx hb dX12_rests_62 (lv_at hl 1 rfl) ?_
          refine lv_iconst (v := 2) hx hb dX12_rests_64 (by decide) ?_
          refine lv_irem hx hb dX12_rests_65 (by decide) ?_
          refine ztop (.int 1) (congrArg Value.int (by decide)) ?_
          refine lv_istore (lv' := [(7, .int 1), (6, .int 0), (5, .int 1), (4, .int 0), (0, .ref h0), (1, .int p1), (2, .int p2), (3, .int p3)]) hx hb dX12_rests_66 hl (by decide) rfl (fun ls hl => ?_)
          refine lv_iload_n hx hb dX12_rests_68 rfl (lv_at hl 5 rfl) ?_
          refine lv_iload_n hx hb dX12_rests_69 rfl (lv_at hl 6 rfl) ?_
          refine lv_iconst (v := 1) hx hb dX12_rests_70 (by decide) ?_
          refine lv_iload hx hb dX12_rests_71 (lv_at hl 1 rfl) ?_
          refine lv_isub hx hb dX12_rests_73 ?_
          refine ztop (.int 1) (congrArg Value.int (by decide)) ?_
          refine lv_iload hx hb dX12_rests_74 (lv_at hl 0 rfl) ?_
          refine scall0 (As := [.int p1, .int p2, .int 1, .int 1]) (rest := []) ⟨hx, hb, hml, hown, hts⟩ (c_mg11 l D ct p1 p2) (va_cwS 4 hts gX12_rests_X12_guardGets rfl rfl rfl (by decide +kernel) ⟨Nat.le_of_ble_eq_true rfl, Nat.le_of_ble_eq_true rfl⟩) hw hS hA hK hN rfl rfl hl.1 rfl (Nat.le_of_ble_eq_true rfl) dX12_rests_76 (fun _ H locs hp99 hw hS => ?_)
          have hw : zPD D A [(h0, .inr (11, [.int 0, .int w_taped, .ref (y 0), .int w_size, .int w_place, .int w_begin, .int w_token, .long w_word, .int w_told, .int w_wrong, .ref (y 1), .ref (y 2), .ref (y 3), .ref (y 4), .ref (y 5), .ref (y 6), .ref (y 7), .ref (y 8), .ref (y 9), .ref (y 10), .ref (y 11), .ref (y 12), .int w_code, .int w_toldLines, .ref (y 13), .ref (y 14), .ref (y 15), .ref (y 16), .ref (y 17), .ref (y 18), .ref (y 19), .ref (y 20), .ref (y 21), .ref (y 22), .ref (y 23), .ref (y 24), .int w_given, .long w_fresh, .ref (y 25), .ref (y 26), .ref (y 27), .ref (y 28), .ref (y 29), .ref (y 30), .ref (y 31), .ref (y 32), .ref (y 33), .ref (y 34), .ref (y 35), .ref (y 36), .ref (y 37), .int w_done, .int w_moreAsked, .ref (y 38), .long w_g, .int w_gone, .int w_stopped]))] H := hw
          refine zfr 79 [.int p1] rfl rfl ?_
          refine lv_iload_n hx hb dX12_rests_79 rfl (lv_at hl 5 rfl) ?_
          refine lv_iload_n hx hb dX12_rests_80 rfl (lv_at hl 6 rfl) ?_
          refine lv_iload hx hb dX12_rests_81 (lv_at hl 1 rfl) ?_
          refine lv_iload hx hb dX12_rests_83 (lv_at hl 0 rfl) ?_
          refine scall0 (As := [.int p1, .int p2, .int 0, .int 1]) (rest := [.int p1]) ⟨hx, hb, hml, hown, hts⟩ (c_mg01 l D ct p1 p2) (va_cwS 4 hts gX12_rests_X12_guardGets rfl rfl rfl (by decide +kernel) ⟨Nat.le_of_ble_eq_true rfl, Nat.le_of_ble_eq_true rfl⟩) hw hS hA hK hN rfl rfl hl.1 rfl (Nat.le_of_ble_eq_true rfl) dX12_rests_85 (fun _ H locs hp100 hw hS => ?_)
          have hw : zPD D A [(h0, .inr (11, [.int 0, .int w_taped, .ref (y 0), .int w_size, .int w_place, .int w_begin, .int w_token, .long w_word, .int w_told, .int w_wrong, .ref (y 1), .ref (y 2), .ref (y 3), .ref (y 4), .ref (y 5), .ref (y 6), .ref (y 7), .ref (y 8), .ref (y 9), .ref (y 10), .ref (y 11), .ref (y 12), .int w_code, .int w_toldLines, .ref (y 13), .ref (y 14), .ref (y 15), .ref (y 16), .ref (y 17), .ref (y 18), .ref (y 19), .ref (y 20), .ref (y 21), .ref (y 22), .ref (y 23), .ref (y 24), .int w_given, .long w_fresh, .ref (y 25), .ref (y 26), .ref (y 27), .ref (y 28), .ref (y 29), .ref (y 30), .ref (y 31), .ref (y 32), .ref (y 33), .ref (y 34), .ref (y 35), .ref (y 36), .ref (y 37), .int w_done, .int w_moreAsked, .ref (y 38), .long w_g, .int w_gone, .int w_stopped]))] H := hw
          refine zfr 88 [.int (-p2), .int p1] rfl rfl ?_
          refine lv_icmp_gt (tgt := 129) hx hb dX12_rests_88 (by decide) (fun c_101 => ?_) (fun c_101 => ?_)
          · refine lv_iinc (v := 2) (lv' := [(5, .int 2), (7, .int 1), (6, .int 0), (4, .int 0), (0, .ref h0), (1, .int p1), (2, .int p2), (3, .int p3)]) hx hb dX12_rests_129 hl (k := 2) rfl (by decide) (by decide) rfl (fun ls hl => ?_)
            refine lv_goto (tgt := 50) hx hb dX12_rests_132 (by decide) ?_
            refine lv_iload hx hb dX12_rests_50 (lv_at hl 0 rfl) ?_
            refine lv_iconst (v := 4) hx hb dX12_rests_52 (by decide) ?_
            refine lv_icmp_ge (tgt := 135) hx hb dX12_rests_53 (by decide) (fun h => absurd h (by decide)) (fun _ => ?_)
            refine lv_iload hx hb dX12_rests_56 (lv_at hl 0 rfl) ?_
            refine lv_iconst (v := 2) hx hb dX12_rests_58 (by decide) ?_
            refine lv_idiv hx hb dX12_rests_59 (by decide) ?_
            refine ztop (.int 1) (congrArg Value.int (by decide)) ?_
            refine lv_istore (lv' := [(6, .int 1), (5, .int 2), (7, .int 1), (4, .int 0), (0, .ref h0), (1, .int p1), (2, .int p2), (3, .int p3)]) hx hb dX12_rests_60 hl (by decide) rfl (fun ls hl => ?_)
            refine lv_iload hx hb dX12_rests_62 (lv_at hl 1 rfl) ?_
            refine lv_iconst (v := 2) hx hb dX12_rests_64 (by decide) ?_
            refine lv_irem hx hb dX12_rests_65 (by decide) ?_
            refine ztop (.int 0) (congrArg Value.int (by decide)) ?_
            refine lv_istore (lv' := [(7, .int 0), (6, .int 1), (5, .int 2), (4, .int 0), (0, .ref h0), (1, .int p1), (2, .int p2), (3, .int p3)]) hx hb dX12_rests_66 hl (by decide) rfl (fun ls hl => ?_)
            refine lv_iload_n hx hb dX12_rests_68 rfl (lv_at hl 5 rfl) ?_
            refine lv_iload_n hx hb dX12_rests_69 rfl (lv_at hl 6 rfl) ?_
            refine lv_iconst (v := 1) hx hb dX12_rests_70 (by decide) ?_
            refine lv_iload hx hb dX12_rests_71 (lv_at hl 1 rfl) ?_
            refine lv_isub hx hb dX12_rests_73 ?_
            refine ztop (.int 0) (congrArg Value.int (by decide)) ?_
            refine lv_iload hx hb dX12_rests_74 (lv_at hl 0 rfl) ?_
            refine scall0 (As := [.int p1, .int p2, .int 0, .int 0]) (rest := []) ⟨hx, hb, hml, hown, hts⟩ (c_mg00 l D ct p1 p2) (va_cwS 4 hts gX12_rests_X12_guardGets rfl rfl rfl (by decide +kernel) ⟨Nat.le_of_ble_eq_true rfl, Nat.le_of_ble_eq_true rfl⟩) hw hS hA hK hN rfl rfl hl.1 rfl (Nat.le_of_ble_eq_true rfl) dX12_rests_76 (fun _ H locs hp103 hw hS => ?_)
            have hw : zPD D A [(h0, .inr (11, [.int 0, .int w_taped, .ref (y 0), .int w_size, .int w_place, .int w_begin, .int w_token, .long w_word, .int w_told, .int w_wrong, .ref (y 1), .ref (y 2), .ref (y 3), .ref (y 4), .ref (y 5), .ref (y 6), .ref (y 7), .ref (y 8), .ref (y 9), .ref (y 10), .ref (y 11), .ref (y 12), .int w_code, .int w_toldLines, .ref (y 13), .ref (y 14), .ref (y 15), .ref (y 16), .ref (y 17), .ref (y 18), .ref (y 19), .ref (y 20), .ref (y 21), .ref (y 22), .ref (y 23), .ref (y 24), .int w_given, .long w_fresh, .ref (y 25), .ref (y 26), .ref (y 27), .ref (y 28), .ref (y 29), .ref (y 30), .ref (y 31), .ref (y 32), .ref (y 33), .ref (y 34), .ref (y 35), .ref (y 36), .ref (y 37), .int w_done, .int w_moreAsked, .ref (y 38), .long w_g, .int w_gone, .int w_stopped]))] H := hw
            refine zfr 79 [.int 0] rfl rfl ?_
            refine lv_iload_n hx hb dX12_rests_79 rfl (lv_at hl 5 rfl) ?_
            refine lv_iload_n hx hb dX12_rests_80 rfl (lv_at hl 6 rfl) ?_
            refine lv_iload hx hb dX12_rests_81 (lv_at hl 1 rfl) ?_
            refine lv_iload hx hb dX12_rests_83 (lv_at hl 0 rfl) ?_
            refine scall0 (As := [.int p1, .int p2, .int 1, .int 0]) (rest := [.int 0]) ⟨hx, hb, hml, hown, hts⟩ (c_mg10 l D ct p1 p2) (va_cwS 4 hts gX12_rests_X12_guardGets rfl rfl rfl (by decide +kernel) ⟨Nat.le_of_ble_eq_true rfl, Nat.le_of_ble_eq_true rfl⟩) hw hS hA hK hN rfl rfl hl.1 rfl (Nat.le_of_ble_eq_true rfl) dX12_rests_85 (fun _ H locs hp104 hw hS => ?_)
            have hw : zPD D A [(h0, .inr (11, [.int 0, .int w_taped, .ref (y 0), .int w_size, .int w_place, .int w_begin, .int w_token, .long w_word, .int w_told, .int w_wrong, .ref (y 1), .ref (y 2), .ref (y 3), .ref (y 4), .ref (y 5), .ref (y 6), .ref (y 7), .ref (y 8), .ref (y 9), .ref (y 10), .ref (y 11), .ref (y 12), .int w_code, .int w_toldLines, .ref (y 13), .ref (y 14), .ref (y 15), .ref (y 16), .ref (y 17), .ref (y 18), .ref (y 19), .ref (y 20), .ref (y 21), .ref (y 22), .ref (y 23), .ref (y 24), .int w_given, .long w_fresh, .ref (y 25), .ref (y 26), .ref (y 27), .ref (y 28), .ref (y 29), .ref (y 30), .ref (y 31), .ref (y 32), .ref (y 33), .ref (y 34), .ref (y 35), .ref (y 36), .ref (y 37), .int w_done, .int w_moreAsked, .ref (y 38), .long w_g, .int w_gone, .int w_stopped]))] H := hw
            refine zfr 88 [.int (-1), .int 0] rfl rfl ?_
            refine lv_icmp_gt (tgt := 129) hx hb dX12_rests_88 (by decide) (fun _ => ?_) (fun h => absurd (by decide) h)
            refine lv_iinc (v := 3) (lv' := [(5, .int 3), (7, .int 0), (6, .int 1), (4, .int 0), (0, .ref h0), (1, .int p1), (2, .int p2), (3, .int p3)]) hx hb dX12_rests_129 hl (k := 2) rfl (by decide) (by decide) rfl (fun ls hl => ?_)
            refine lv_goto (tgt := 50) hx hb dX12_rests_132 (by decide) ?_
            refine lv_iload hx hb dX12_rests_50 (lv_at hl 0 rfl) ?_
            refine lv_iconst (v := 4) hx hb dX12_rests_52 (by decide) ?_
            refine lv_icmp_ge (tgt := 135) hx hb dX12_rests_53 (by decide) (fun h => absurd h (by decide)) (fun _ => ?_)
            refine lv_iload hx hb dX12_rests_56 (lv_at hl 0 rfl) ?_
            refine lv_iconst (v := 2) hx hb dX12_rests_58 (by decide) ?_
            refine lv_idiv hx hb dX12_rests_59 (by decide) ?_
            refine ztop (.int 1) (congrArg Value.int (by decide)) ?_
            refine lv_istore (lv' := [(6, .int 1), (5, .int 3), (7, .int 0), (4, .int 0), (0, .ref h0), (1, .int p1), (2, .int p2), (3, .int p3)]) hx hb dX12_rests_60 hl (by decide) rfl (fun ls hl => ?_)
            refine lv_iload hx hb dX12_rests_62 (lv_at hl 1 rfl) ?_
            refine lv_iconst (v := 2) hx hb dX12_rests_64 (by decide) ?_
            refine lv_irem hx hb dX12_rests_65 (by decide) ?_
            refine ztop (.int 1) (congrArg Value.int (by decide)) ?_
            refine lv_istore (lv' := [(7, .int 1), (6, .int 1), (5, .int 3), (4, .int 0), (0, .ref h0), (1, .int p1), (2, .int p2), (3, .int p3)]) hx hb dX12_rests_66 hl (by decide) rfl (fun ls hl => ?_)
            refine lv_iload_n hx hb dX12_rests_68 rfl (lv_at hl 5 rfl) ?_
            refine lv_iload_n hx hb dX12_rests_69 rfl (lv_at hl 6 rfl) ?_
            refine lv_iconst (v := 1) hx hb dX12_rests_70 (by decide) ?_
            refine lv_iload hx hb dX12_rests_71 (lv_at hl 1 rfl) ?_
            refine lv_isub hx hb dX12_rests_73 ?_
            refine ztop (.int 0) (congrArg Value.int (by decide)) ?_
            refine lv_iload hx hb dX12_rests_74 (lv_at hl 0 rfl) ?_
            refine scall0 (As := [.int p1, .int p2, .int 0, .int 1]) (rest := []) ⟨hx, hb, hml, hown, hts⟩ (c_mg01 l D ct p1 p2) (va_cwS 4 hts gX12_rests_X12_guardGets rfl rfl rfl (by decide +kernel) ⟨Nat.le_of_ble_eq_true rfl, Nat.le_of_ble_eq_true rfl⟩) hw hS hA hK hN rfl rfl hl.1 rfl (Nat.le_of_ble_eq_true rfl) dX12_rests_76 (fun _ H locs hp107 hw hS => ?_)
            have hw : zPD D A [(h0, .inr (11, [.int 0, .int w_taped, .ref (y 0), .int w_size, .int w_place, .int w_begin, .int w_token, .long w_word, .int w_told, .int w_wrong, .ref (y 1), .ref (y 2), .ref (y 3), .ref (y 4), .ref (y 5), .ref (y 6), .ref (y 7), .ref (y 8), .ref (y 9), .ref (y 10), .ref (y 11), .ref (y 12), .int w_code, .int w_toldLines, .ref (y 13), .ref (y 14), .ref (y 15), .ref (y 16), .ref (y 17), .ref (y 18), .ref (y 19), .ref (y 20), .ref (y 21), .ref (y 22), .ref (y 23), .ref (y 24), .int w_given, .long w_fresh, .ref (y 25), .ref (y 26), .ref (y 27), .ref (y 28), .ref (y 29), .ref (y 30), .ref (y 31), .ref (y 32), .ref (y 33), .ref (y 34), .ref (y 35), .ref (y 36), .ref (y 37), .int w_done, .int w_moreAsked, .ref (y 38), .long w_g, .int w_gone, .int w_stopped]))] H := hw
            refine zfr 79 [.int (-p2)] rfl rfl ?_
            refine lv_iload_n hx hb dX12_rests_79 rfl (lv_at hl 5 rfl) ?_
            refine lv_iload_n hx hb dX12_rests_80 rfl (lv_at hl 6 rfl) ?_
            refine lv_iload hx hb dX12_rests_81 (lv_at hl 1 rfl) ?_
            refine lv_iload hx hb dX12_rests_83 (lv_at hl 0 rfl) ?_
            refine scall0 (As := [.int p1, .int p2, .int 1, .int 1]) (rest := [.int (-p2)]) ⟨hx, hb, hml, hown, hts⟩ (c_mg11 l D ct p1 p2) (va_cwS 4 hts gX12_rests_X12_guardGets rfl rfl rfl (by decide +kernel) ⟨Nat.le_of_ble_eq_true rfl, Nat.le_of_ble_eq_true rfl⟩) hw hS hA hK hN rfl rfl hl.1 rfl (Nat.le_of_ble_eq_true rfl) dX12_rests_85 (fun _ H locs hp108 hw hS => ?_)
            have hw : zPD D A [(h0, .inr (11, [.int 0, .int w_taped, .ref (y 0), .int w_size, .int w_place, .int w_begin, .int w_token, .long w_word, .int w_told, .int w_wrong, .ref (y 1), .ref (y 2), .ref (y 3), .ref (y 4), .ref (y 5), .ref (y 6), .ref (y 7), .ref (y 8), .ref (y 9), .ref (y 10), .ref (y 11), .ref (y 12), .int w_code, .int w_toldLines, .ref (y 13), .ref (y 14), .ref (y 15), .ref (y 16), .ref (y 17), .ref (y 18), .ref (y 19), .ref (y 20), .ref (y 21), .ref (y 22), .ref (y 23), .ref (y 24), .int w_given, .long w_fresh, .ref (y 25), .ref (y 26), .ref (y 27), .ref (y 28), .ref (y 29), .ref (y 30), .ref (y 31), .ref (y 32), .ref (y 33), .ref (y 34), .ref (y 35), .ref (y 36), .ref (y 37), .int w_done, .int w_moreAsked, .ref (y 38), .long w_g, .int w_gone, .int w_stopped]))] H := hw
            refine zfr 88 [.int p1, .int (-p2)] rfl rfl ?_
            refine lv_icmp_gt (tgt := 129) hx hb dX12_rests_88 (by decide) (fun c_109 => ?_) (fun c_109 => ?_)
            · refine lv_iinc (v := 4) (lv' := [(5, .int 4), (7, .int 1), (6, .int 1), (4, .int 0), (0, .ref h0), (1, .int p1), (2, .int p2), (3, .int p3)]) hx hb dX12_rests_129 hl (k := 2) rfl (by decide) (by decide) rfl (fun ls hl => ?_)
              refine lv_goto (tgt := 50) hx hb dX12_rests_132 (by decide) ?_
              refine lv_iload hx hb dX12_rests_50 (lv_at hl 0 rfl) ?_
              refine lv_iconst (v := 4) hx hb dX12_rests_52 (by decide) ?_
              refine lv_icmp_ge (tgt := 135) hx hb dX12_rests_53 (by decide) (fun _ => ?_) (fun h => absurd (by decide) h)
              refine lv_aload_n hx hb dX12_rests_135 rfl (lv_at hl 4 rfl) ?_
              refine lv_iload_n hx hb dX12_rests_136 rfl (lv_at hl 7 rfl) ?_
              refine lv_iconst (v := (-1)) hx hb dX12_rests_137 (by decide) ?_
              refine lv_icmp_ne (tgt := 145) hx hb dX12_rests_138 (by decide) (fun c_111 => ?_) (fun c_111 => ?_)
              · refine lv_iconst (v := 1) hx hb dX12_rests_145 (by decide) ?_
                refine zput (D := D) (ci := 11) (v := .int 1) (ty := .int) hx hb hts hiX12 tyX12 tyX12_ok nmX12 hown hK hw hS 0 rfl rfl 0 (by decide) (hts (.fieldLink RX12 129 "BeardPassModel" "thrown" "I") (by decide +kernel)) (fun _ h9 => h9) rfl (by decide +kernel) rfl rfl (Nat.le_of_ble_eq_true rfl) dX12_rests_146 [(h0, .inr (11, [.int 1, .int w_taped, .ref (y 0), .int w_size, .int w_place, .int w_begin, .int w_token, .long w_word, .int w_told, .int w_wrong, .ref (y 1), .ref (y 2), .ref (y 3), .ref (y 4), .ref (y 5), .ref (y 6), .ref (y 7), .ref (y 8), .ref (y 9), .ref (y 10), .ref (y 11), .ref (y 12), .int w_code, .int w_toldLines, .ref (y 13), .ref (y 14), .ref (y 15), .ref (y 16), .ref (y 17), .ref (y 18), .ref (y 19), .ref (y 20), .ref (y 21), .ref (y 22), .ref (y 23), .ref (y 24), .int w_given, .long w_fresh, .ref (y 25), .ref (y 26), .ref (y 27), .ref (y 28), .ref (y 29), .ref (y 30), .ref (y 31), .ref (y 32), .ref (y 33), .ref (y 34), .ref (y 35), .ref (y 36), .ref (y 37), .int w_done, .int w_moreAsked, .ref (y 38), .long w_g, .int w_gone, .int w_stopped]))] rfl (fun H locs hw hS => ?_)
                refine lv_iload_n hx hb dX12_rests_149 rfl (lv_at hl 7 rfl) ?_
                refine lv_iconst (v := (-1)) hx hb dX12_rests_150 (by decide) ?_
                refine lv_icmp_ne (tgt := 159) hx hb dX12_rests_151 (by decide) (fun _ => ?_) (fun h => absurd h (c_111))
                refine lv_iconst (v := 0) hx hb dX12_rests_159 (by decide) ?_
                exact ziret hx hb hr (rfl) hlocks () (congrArg (fun z => some (Value.int z)) (zrv_none (by rw [zrs, if_neg c_2, if_neg c_5, if_pos (zsge (r := p1) (w := p2) c_7), zrq0, if_pos (show zat0 p2 = 0 from if_neg c_16), zrq1, if_pos (show zat1 p1 p2 = 0 from if_pos c_101), zrq3, if_pos (show zat3 p1 p2 = 0 from if_pos c_109), zrq4, if_neg c_111]))) (trivial) hw [0] rfl (by rw [show zth p1 p2 p3 = 1 from zth_none (by rw [zrs, if_neg c_2, if_neg c_5, if_pos (zsge (r := p1) (w := p2) c_7), zrq0, if_pos (show zat0 p2 = 0 from if_neg c_16), zrq1, if_pos (show zat1 p1 p2 = 0 from if_pos c_101), zrq3, if_pos (show zat3 p1 p2 = 0 from if_pos c_109), zrq4, if_neg c_111])]; rfl) hS (Nat.le_of_ble_eq_true rfl) (Nat.le_of_ble_eq_true rfl) dX12_rests_160
              · refine lv_iconst (v := 0) hx hb dX12_rests_141 (by decide) ?_
                refine lv_goto (tgt := 146) hx hb dX12_rests_142 (by decide) ?_
                refine zput (D := D) (ci := 11) (v := .int 0) (ty := .int) hx hb hts hiX12 tyX12 tyX12_ok nmX12 hown hK hw hS 0 rfl rfl 0 (by decide) (hts (.fieldLink RX12 129 "BeardPassModel" "thrown" "I") (by decide +kernel)) (fun _ h9 => h9) rfl (by decide +kernel) rfl rfl (Nat.le_of_ble_eq_true rfl) dX12_rests_146 [(h0, .inr (11, [.int 0, .int w_taped, .ref (y 0), .int w_size, .int w_place, .int w_begin, .int w_token, .long w_word, .int w_told, .int w_wrong, .ref (y 1), .ref (y 2), .ref (y 3), .ref (y 4), .ref (y 5), .ref (y 6), .ref (y 7), .ref (y 8), .ref (y 9), .ref (y 10), .ref (y 11), .ref (y 12), .int w_code, .int w_toldLines, .ref (y 13), .ref (y 14), .ref (y 15), .ref (y 16), .ref (y 17), .ref (y 18), .ref (y 19), .ref (y 20), .ref (y 21), .ref (y 22), .ref (y 23), .ref (y 24), .int w_given, .long w_fresh, .ref (y 25), .ref (y 26), .ref (y 27), .ref (y 28), .ref (y 29), .ref (y 30), .ref (y 31), .ref (y 32), .ref (y 33), .ref (y 34), .ref (y 35), .ref (y 36), .ref (y 37), .int w_done, .int w_moreAsked, .ref (y 38), .long w_g, .int w_gone, .int w_stopped]))] rfl (fun H locs hw hS => ?_)
                refine lv_iload_n hx hb dX12_rests_149 rfl (lv_at hl 7 rfl) ?_
                refine lv_iconst (v := (-1)) hx hb dX12_rests_150 (by decide) ?_
                refine lv_icmp_ne (tgt := 159) hx hb dX12_rests_151 (by decide) (fun h => absurd (c_111) h) (fun _ => ?_)
                refine lv_iload hx hb dX12_rests_154 (lv_at hl 3 rfl) ?_
                refine lv_goto (tgt := 160) hx hb dX12_rests_156 (by decide) ?_
                exact ziret hx hb hr (rfl) hlocks () (congrArg (fun z => some (Value.int z)) (zrv_some (by rw [zrs, if_neg c_2, if_neg c_5, if_pos (zsge (r := p1) (w := p2) c_7), zrq0, if_pos (show zat0 p2 = 0 from if_neg c_16), zrq1, if_pos (show zat1 p1 p2 = 0 from if_pos c_101), zrq3, if_pos (show zat3 p1 p2 = 0 from if_pos c_109), zrq4, if_pos c_111]))) (trivial) hw [0] rfl (by rw [show zth p1 p2 p3 = 0 from zth_some (v := 0) (by rw [zrs, if_neg c_2, if_neg c_5, if_pos (zsge (r := p1) (w := p2) c_7), zrq0, if_pos (show zat0 p2 = 0 from if_neg c_16), zrq1, if_pos (show zat1 p1 p2 = 0 from if_pos c_101), zrq3, if_pos (show zat3 p1 p2 = 0 from if_pos c_109), zrq4, if_pos c_111])]; rfl) hS (Nat.le_of_ble_eq_true rfl) (Nat.le_of_ble_eq_true rfl) dX12_rests_160
            · refine lv_iload_n hx hb dX12_rests_91 rfl (lv_at hl 5 rfl) ?_
              refine lv_iload_n hx hb dX12_rests_92 rfl (lv_at hl 6 rfl) ?_
              refine lv_iload hx hb dX12_rests_93 (lv_at hl 1 rfl) ?_
              refine lv_iconst (v := 1) hx hb dX12_rests_95 (by decide) ?_
              refine lv_iload hx hb dX12_rests_96 (lv_at hl 0 rfl) ?_
              refine lv_isub hx hb dX12_rests_98 ?_
              refine ztop (.int 0) (congrArg Value.int (by decide)) ?_
              refine scall0 (As := [.int p1, .int p2, .int 1, .int 0]) (rest := []) ⟨hx, hb, hml, hown, hts⟩ (c_mt10 l D ct p1 p2) (va_cwS 4 hts gX12_rests_X12_travellerGets rfl rfl rfl (by decide +kernel) ⟨Nat.le_of_ble_eq_true rfl, Nat.le_of_ble_eq_true rfl⟩) hw hS hA hK hN rfl rfl hl.1 rfl (Nat.le_of_ble_eq_true rfl) dX12_rests_99 (fun _ H locs hp114 hw hS => ?_)
              have hw : zPD D A [(h0, .inr (11, [.int 0, .int w_taped, .ref (y 0), .int w_size, .int w_place, .int w_begin, .int w_token, .long w_word, .int w_told, .int w_wrong, .ref (y 1), .ref (y 2), .ref (y 3), .ref (y 4), .ref (y 5), .ref (y 6), .ref (y 7), .ref (y 8), .ref (y 9), .ref (y 10), .ref (y 11), .ref (y 12), .int w_code, .int w_toldLines, .ref (y 13), .ref (y 14), .ref (y 15), .ref (y 16), .ref (y 17), .ref (y 18), .ref (y 19), .ref (y 20), .ref (y 21), .ref (y 22), .ref (y 23), .ref (y 24), .int w_given, .long w_fresh, .ref (y 25), .ref (y 26), .ref (y 27), .ref (y 28), .ref (y 29), .ref (y 30), .ref (y 31), .ref (y 32), .ref (y 33), .ref (y 34), .ref (y 35), .ref (y 36), .ref (y 37), .int w_done, .int w_moreAsked, .ref (y 38), .long w_g, .int w_gone, .int w_stopped]))] H := hw
              refine zfr 102 [.int 0] rfl rfl ?_
              refine lv_iload_n hx hb dX12_rests_102 rfl (lv_at hl 5 rfl) ?_
              refine lv_iload_n hx hb dX12_rests_103 rfl (lv_at hl 6 rfl) ?_
              refine lv_iload hx hb dX12_rests_104 (lv_at hl 1 rfl) ?_
              refine lv_iload hx hb dX12_rests_106 (lv_at hl 0 rfl) ?_
              refine scall0 (As := [.int p1, .int p2, .int 1, .int 1]) (rest := [.int 0]) ⟨hx, hb, hml, hown, hts⟩ (c_mt11 l D ct p1 p2) (va_cwS 4 hts gX12_rests_X12_travellerGets rfl rfl rfl (by decide +kernel) ⟨Nat.le_of_ble_eq_true rfl, Nat.le_of_ble_eq_true rfl⟩) hw hS hA hK hN rfl rfl hl.1 rfl (Nat.le_of_ble_eq_true rfl) dX12_rests_108 (fun _ H locs hp115 hw hS => ?_)
              have hw : zPD D A [(h0, .inr (11, [.int 0, .int w_taped, .ref (y 0), .int w_size, .int w_place, .int w_begin, .int w_token, .long w_word, .int w_told, .int w_wrong, .ref (y 1), .ref (y 2), .ref (y 3), .ref (y 4), .ref (y 5), .ref (y 6), .ref (y 7), .ref (y 8), .ref (y 9), .ref (y 10), .ref (y 11), .ref (y 12), .int w_code, .int w_toldLines, .ref (y 13), .ref (y 14), .ref (y 15), .ref (y 16), .ref (y 17), .ref (y 18), .ref (y 19), .ref (y 20), .ref (y 21), .ref (y 22), .ref (y 23), .ref (y 24), .int w_given, .long w_fresh, .ref (y 25), .ref (y 26), .ref (y 27), .ref (y 28), .ref (y 29), .ref (y 30), .ref (y 31), .ref (y 32), .ref (y 33), .ref (y 34), .ref (y 35), .ref (y 36), .ref (y 37), .int w_done, .int w_moreAsked, .ref (y 38), .long w_g, .int w_gone, .int w_stopped]))] H := hw
              refine zfr 111 [.int (-p1), .int 0] rfl rfl ?_
              refine lv_icmp_le (tgt := 117) hx hb dX12_rests_111 (by decide) (fun c_116 => ?_) (fun c_116 => ?_)
              · refine lv_iload hx hb dX12_rests_117 (lv_at hl 3 rfl) ?_
                refine lv_iload_n hx hb dX12_rests_119 rfl (lv_at hl 7 rfl) ?_
                refine lv_icmp_ne (tgt := 126) hx hb dX12_rests_120 (by decide) (fun c_117 => ?_) (fun c_117 => ?_)
                · refine lv_iinc (v := 1) (lv' := [(4, .int 1), (7, .int 1), (6, .int 1), (5, .int 3), (0, .ref h0), (1, .int p1), (2, .int p2), (3, .int p3)]) hx hb dX12_rests_126 hl (k := 3) rfl (by decide) (by decide) rfl (fun ls hl => ?_)
                  refine lv_iinc (v := 4) (lv' := [(5, .int 4), (4, .int 1), (7, .int 1), (6, .int 1), (0, .ref h0), (1, .int p1), (2, .int p2), (3, .int p3)]) hx hb dX12_rests_129 hl (k := 3) rfl (by decide) (by decide) rfl (fun ls hl => ?_)
                  refine lv_goto (tgt := 50) hx hb dX12_rests_132 (by decide) ?_
                  refine lv_iload hx hb dX12_rests_50 (lv_at hl 0 rfl) ?_
                  refine lv_iconst (v := 4) hx hb dX12_rests_52 (by decide) ?_
                  refine lv_icmp_ge (tgt := 135) hx hb dX12_rests_53 (by decide) (fun _ => ?_) (fun h => absurd (by decide) h)
                  refine lv_aload_n hx hb dX12_rests_135 rfl (lv_at hl 4 rfl) ?_
                  refine lv_iload_n hx hb dX12_rests_136 rfl (lv_at hl 7 rfl) ?_
                  refine lv_iconst (v := (-1)) hx hb dX12_rests_137 (by decide) ?_
                  refine lv_icmp_ne (tgt := 145) hx hb dX12_rests_138 (by decide) (fun c_119 => ?_) (fun c_119 => ?_)
                  · refine lv_iconst (v := 1) hx hb dX12_rests_145 (by decide) ?_
                    refine zput (D := D) (ci := 11) (v := .int 1) (ty := .int) hx hb hts hiX12 tyX12 tyX12_ok nmX12 hown hK hw hS 0 rfl rfl 0 (by decide) (hts (.fieldLink RX12 129 "BeardPassModel" "thrown" "I") (by decide +kernel)) (fun _ h9 => h9) rfl (by decide +kernel) rfl rfl (Nat.le_of_ble_eq_true rfl) dX12_rests_146 [(h0, .inr (11, [.int 1, .int w_taped, .ref (y 0), .int w_size, .int w_place, .int w_begin, .int w_token, .long w_word, .int w_told, .int w_wrong, .ref (y 1), .ref (y 2), .ref (y 3), .ref (y 4), .ref (y 5), .ref (y 6), .ref (y 7), .ref (y 8), .ref (y 9), .ref (y 10), .ref (y 11), .ref (y 12), .int w_code, .int w_toldLines, .ref (y 13), .ref (y 14), .ref (y 15), .ref (y 16), .ref (y 17), .ref (y 18), .ref (y 19), .ref (y 20), .ref (y 21), .ref (y 22), .ref (y 23), .ref (y 24), .int w_given, .long w_fresh, .ref (y 25), .ref (y 26), .ref (y 27), .ref (y 28), .ref (y 29), .ref (y 30), .ref (y 31), .ref (y 32), .ref (y 33), .ref (y 34), .ref (y 35), .ref (y 36), .ref (y 37), .int w_done, .int w_moreAsked, .ref (y 38), .long w_g, .int w_gone, .int w_stopped]))] rfl (fun H locs hw hS => ?_)
                    refine lv_iload_n hx hb dX12_rests_149 rfl (lv_at hl 7 rfl) ?_
                    refine lv_iconst (v := (-1)) hx hb dX12_rests_150 (by decide) ?_
                    refine lv_icmp_ne (tgt := 159) hx hb dX12_rests_151 (by decide) (fun _ => ?_) (fun h => absurd h (c_119))
                    refine lv_iconst (v := 0) hx hb dX12_rests_159 (by decide) ?_
                    exact ziret hx hb hr (rfl) hlocks () (congrArg (fun z => some (Value.int z)) (zrv_none (by rw [zrs, if_neg c_2, if_neg c_5, if_pos (zsge (r := p1) (w := p2) c_7), zrq0, if_pos (show zat0 p2 = 0 from if_neg c_16), zrq1, if_pos (show zat1 p1 p2 = 0 from if_pos c_101), zrq3, if_neg (show ¬ zat3 p1 p2 = 0 by rw [zat3, if_neg c_109, if_pos c_116]; decide), if_neg c_117, zrq4, if_neg c_119]))) (trivial) hw [0] rfl (by rw [show zth p1 p2 p3 = 1 from zth_none (by rw [zrs, if_neg c_2, if_neg c_5, if_pos (zsge (r := p1) (w := p2) c_7), zrq0, if_pos (show zat0 p2 = 0 from if_neg c_16), zrq1, if_pos (show zat1 p1 p2 = 0 from if_pos c_101), zrq3, if_neg (show ¬ zat3 p1 p2 = 0 by rw [zat3, if_neg c_109, if_pos c_116]; decide), if_neg c_117, zrq4, if_neg c_119])]; rfl) hS (Nat.le_of_ble_eq_true rfl) (Nat.le_of_ble_eq_true rfl) dX12_rests_160
                  · refine lv_iconst (v := 0) hx hb dX12_rests_141 (by decide) ?_
                    refine lv_goto (tgt := 146) hx hb dX12_rests_142 (by decide) ?_
                    refine zput (D := D) (ci := 11) (v := .int 0) (ty := .int) hx hb hts hiX12 tyX12 tyX12_ok nmX12 hown hK hw hS 0 rfl rfl 0 (by decide) (hts (.fieldLink RX12 129 "BeardPassModel" "thrown" "I") (by decide +kernel)) (fun _ h9 => h9) rfl (by decide +kernel) rfl rfl (Nat.le_of_ble_eq_true rfl) dX12_rests_146 [(h0, .inr (11, [.int 0, .int w_taped, .ref (y 0), .int w_size, .int w_place, .int w_begin, .int w_token, .long w_word, .int w_told, .int w_wrong, .ref (y 1), .ref (y 2), .ref (y 3), .ref (y 4), .ref (y 5), .ref (y 6), .ref (y 7), .ref (y 8), .ref (y 9), .ref (y 10), .ref (y 11), .ref (y 12), .int w_code, .int w_toldLines, .ref (y 13), .ref (y 14), .ref (y 15), .ref (y 16), .ref (y 17), .ref (y 18), .ref (y 19), .ref (y 20), .ref (y 21), .ref (y 22), .ref (y 23), .ref (y 24), .int w_given, .long w_fresh, .ref (y 25), .ref (y 26), .ref (y 27), .ref (y 28), .ref (y 29), .ref (y 30), .ref (y 31), .ref (y 32), .ref (y 33), .ref (y 34), .ref (y 35), .ref (y 36), .ref (y 37), .int w_done, .int w_moreAsked, .ref (y 38), .long w_g, .int w_gone, .int w_stopped]))] rfl (fun H locs hw hS => ?_)
                    refine lv_iload_n hx hb dX12_rests_149 rfl (lv_at hl 7 rfl) ?_
                    refine lv_iconst (v := (-1)) hx hb dX12_rests_150 (by decide) ?_
                    refine lv_icmp_ne (tgt := 159) hx hb dX12_rests_151 (by decide) (fun h => absurd (c_119) h) (fun _ => ?_)
                    refine lv_iload hx hb dX12_rests_154 (lv_at hl 1 rfl) ?_
                    refine lv_goto (tgt := 160) hx hb dX12_rests_156 (by decide) ?_
                    exact ziret hx hb hr (rfl) hlocks () (congrArg (fun z => some (Value.int z)) (zrv_some (by rw [zrs, if_neg c_2, if_neg c_5, if_pos (zsge (r := p1) (w := p2) c_7), zrq0, if_pos (show zat0 p2 = 0 from if_neg c_16), zrq1, if_pos (show zat1 p1 p2 = 0 from if_pos c_101), zrq3, if_neg (show ¬ zat3 p1 p2 = 0 by rw [zat3, if_neg c_109, if_pos c_116]; decide), if_neg c_117, zrq4, if_pos c_119]))) (trivial) hw [0] rfl (by rw [show zth p1 p2 p3 = 0 from zth_some (v := 1) (by rw [zrs, if_neg c_2, if_neg c_5, if_pos (zsge (r := p1) (w := p2) c_7), zrq0, if_pos (show zat0 p2 = 0 from if_neg c_16), zrq1, if_pos (show zat1 p1 p2 = 0 from if_pos c_101), zrq3, if_neg (show ¬ zat3 p1 p2 = 0 by rw [zat3, if_neg c_109, if_pos c_116]; decide), if_neg c_117, zrq4, if_pos c_119])]; rfl) hS (Nat.le_of_ble_eq_true rfl) (Nat.le_of_ble_eq_true rfl) dX12_rests_160
                · refine lv_iload hx hb dX12_rests_123 (lv_at hl 2 rfl) ?_
                  exact ziret hx hb hr (rfl) hlocks () (congrArg (fun z => some (Value.int z)) (zrv_some (by rw [zrs, if_neg c_2, if_neg c_5, if_pos (zsge (r := p1) (w := p2) c_7), zrq0, if_pos (show zat0 p2 = 0 from if_neg c_16), zrq1, if_pos (show zat1 p1 p2 = 0 from if_pos c_101), zrq3, if_neg (show ¬ zat3 p1 p2 = 0 by rw [zat3, if_neg c_109, if_pos c_116]; decide), if_pos c_117]))) (trivial) hw [0] rfl (by rw [show zth p1 p2 p3 = 0 from zth_some (v := 3) (by rw [zrs, if_neg c_2, if_neg c_5, if_pos (zsge (r := p1) (w := p2) c_7), zrq0, if_pos (show zat0 p2 = 0 from if_neg c_16), zrq1, if_pos (show zat1 p1 p2 = 0 from if_pos c_101), zrq3, if_neg (show ¬ zat3 p1 p2 = 0 by rw [zat3, if_neg c_109, if_pos c_116]; decide), if_pos c_117])]; rfl) hS (Nat.le_of_ble_eq_true rfl) (Nat.le_of_ble_eq_true rfl) dX12_rests_125
              · refine lv_goto (tgt := 129) hx hb dX12_rests_114 (by decide) ?_
                refine lv_iinc (v := 4) (lv' := [(5, .int 4), (7, .int 1), (6, .int 1), (4, .int 0), (0, .ref h0), (1, .int p1), (2, .int p2), (3, .int p3)]) hx hb dX12_rests_129 hl (k := 2) rfl (by decide) (by decide) rfl (fun ls hl => ?_)
                refine lv_goto (tgt := 50) hx hb dX12_rests_132 (by decide) ?_
                refine lv_iload hx hb dX12_rests_50 (lv_at hl 0 rfl) ?_
                refine lv_iconst (v := 4) hx hb dX12_rests_52 (by decide) ?_
                refine lv_icmp_ge (tgt := 135) hx hb dX12_rests_53 (by decide) (fun _ => ?_) (fun h => absurd (by decide) h)
                refine lv_aload_n hx hb dX12_rests_135 rfl (lv_at hl 4 rfl) ?_
                refine lv_iload_n hx hb dX12_rests_136 rfl (lv_at hl 7 rfl) ?_
                refine lv_iconst (v := (-1)) hx hb dX12_rests_137 (by decide) ?_
                refine lv_icmp_ne (tgt := 145) hx hb dX12_rests_138 (by decide) (fun c_123 => ?_) (fun c_123 => ?_)
                · refine lv_iconst (v := 1) hx hb dX12_rests_145 (by decide) ?_
                  refine zput (D := D) (ci := 11) (v := .int 1) (ty := .int) hx hb hts hiX12 tyX12 tyX12_ok nmX12 hown hK hw hS 0 rfl rfl 0 (by decide) (hts (.fieldLink RX12 129 "BeardPassModel" "thrown" "I") (by decide +kernel)) (fun _ h9 => h9) rfl (by decide +kernel) rfl rfl (Nat.le_of_ble_eq_true rfl) dX12_rests_146 [(h0, .inr (11, [.int 1, .int w_taped, .ref (y 0), .int w_size, .int w_place, .int w_begin, .int w_token, .long w_word, .int w_told, .int w_wrong, .ref (y 1), .ref (y 2), .ref (y 3), .ref (y 4), .ref (y 5), .ref (y 6), .ref (y 7), .ref (y 8), .ref (y 9), .ref (y 10), .ref (y 11), .ref (y 12), .int w_code, .int w_toldLines, .ref (y 13), .ref (y 14), .ref (y 15), .ref (y 16), .ref (y 17), .ref (y 18), .ref (y 19), .ref (y 20), .ref (y 21), .ref (y 22), .ref (y 23), .ref (y 24), .int w_given, .long w_fresh, .ref (y 25), .ref (y 26), .ref (y 27), .ref (y 28), .ref (y 29), .ref (y 30), .ref (y 31), .ref (y 32), .ref (y 33), .ref (y 34), .ref (y 35), .ref (y 36), .ref (y 37), .int w_done, .int w_moreAsked, .ref (y 38), .long w_g, .int w_gone, .int w_stopped]))] rfl (fun H locs hw hS => ?_)
                  refine lv_iload_n hx hb dX12_rests_149 rfl (lv_at hl 7 rfl) ?_
                  refine lv_iconst (v := (-1)) hx hb dX12_rests_150 (by decide) ?_
                  refine lv_icmp_ne (tgt := 159) hx hb dX12_rests_151 (by decide) (fun _ => ?_) (fun h => absurd h (c_123))
                  refine lv_iconst (v := 0) hx hb dX12_rests_159 (by decide) ?_
                  exact ziret hx hb hr (rfl) hlocks () (congrArg (fun z => some (Value.int z)) (zrv_none (by rw [zrs, if_neg c_2, if_neg c_5, if_pos (zsge (r := p1) (w := p2) c_7), zrq0, if_pos (show zat0 p2 = 0 from if_neg c_16), zrq1, if_pos (show zat1 p1 p2 = 0 from if_pos c_101), zrq3, if_pos (show zat3 p1 p2 = 0 from (if_neg c_109).trans (if_neg c_116)), zrq4, if_neg c_123]))) (trivial) hw [0] rfl (by rw [show zth p1 p2 p3 = 1 from zth_none (by rw [zrs, if_neg c_2, if_neg c_5, if_pos (zsge (r := p1) (w := p2) c_7), zrq0, if_pos (show zat0 p2 = 0 from if_neg c_16), zrq1, if_pos (show zat1 p1 p2 = 0 from if_pos c_101), zrq3, if_pos (show zat3 p1 p2 = 0 from (if_neg c_109).trans (if_neg c_116)), zrq4, if_neg c_123])]; rfl) hS (Nat.le_of_ble_eq_true rfl) (Nat.le_of_ble_eq_true rfl) dX12_rests_160
                · refine lv_iconst (v := 0) hx hb dX12_rests_141 (by decide) ?_
                  refine lv_goto (tgt := 146) hx hb dX12_rests_142 (by decide) ?_
                  refine zput (D := D) (ci := 11) (v := .int 0) (ty := .int) hx hb hts hiX12 tyX12 tyX12_ok nmX12 hown hK hw hS 0 rfl rfl 0 (by decide) (hts (.fieldLink RX12 129 "BeardPassModel" "thrown" "I") (by decide +kernel)) (fun _ h9 => h9) rfl (by decide +kernel) rfl rfl (Nat.le_of_ble_eq_true rfl) dX12_rests_146 [(h0, .inr (11, [.int 0, .int w_taped, .ref (y 0), .int w_size, .int w_place, .int w_begin, .int w_token, .long w_word, .int w_told, .int w_wrong, .ref (y 1), .ref (y 2), .ref (y 3), .ref (y 4), .ref (y 5), .ref (y 6), .ref (y 7), .ref (y 8), .ref (y 9), .ref (y 10), .ref (y 11), .ref (y 12), .int w_code, .int w_toldLines, .ref (y 13), .ref (y 14), .ref (y 15), .ref (y 16), .ref (y 17), .ref (y 18), .ref (y 19), .ref (y 20), .ref (y 21), .ref (y 22), .ref (y 23), .ref (y 24), .int w_given, .long w_fresh, .ref (y 25), .ref (y 26), .ref (y 27), .ref (y 28), .ref (y 29), .ref (y 30), .ref (y 31), .ref (y 32), .ref (y 33), .ref (y 34), .ref (y 35), .ref (y 36), .ref (y 37), .int w_done, .int w_moreAsked, .ref (y 38), .long w_g, .int w_gone, .int w_stopped]))] rfl (fun H locs hw hS => ?_)
                  refine lv_iload_n hx hb dX12_rests_149 rfl (lv_at hl 7 rfl) ?_
                  refine lv_iconst (v := (-1)) hx hb dX12_rests_150 (by decide) ?_
                  refine lv_icmp_ne (tgt := 159) hx hb dX12_rests_151 (by decide) (fun h => absurd (c_123) h) (fun _ => ?_)
                  refine lv_iload hx hb dX12_rests_154 (lv_at hl 3 rfl) ?_
                  refine lv_goto (tgt := 160) hx hb dX12_rests_156 (by decide) ?_
                  exact ziret hx hb hr (rfl) hlocks () (congrArg (fun z => some (Value.int z)) (zrv_some (by rw [zrs, if_neg c_2, if_neg c_5, if_pos (zsge (r := p1) (w := p2) c_7), zrq0, if_pos (show zat0 p2 = 0 from if_neg c_16), zrq1, if_pos (show zat1 p1 p2 = 0 from if_pos c_101), zrq3, if_pos (show zat3 p1 p2 = 0 from (if_neg c_109).trans (if_neg c_116)), zrq4, if_pos c_123]))) (trivial) hw [0] rfl (by rw [show zth p1 p2 p3 = 0 from zth_some (v := 0) (by rw [zrs, if_neg c_2, if_neg c_5, if_pos (zsge (r := p1) (w := p2) c_7), zrq0, if_pos (show zat0 p2 = 0 from if_neg c_16), zrq1, if_pos (show zat1 p1 p2 = 0 from if_pos c_101), zrq3, if_pos (show zat3 p1 p2 = 0 from (if_neg c_109).trans (if_neg c_116)), zrq4, if_pos c_123])]; rfl) hS (Nat.le_of_ble_eq_true rfl) (Nat.le_of_ble_eq_true rfl) dX12_rests_160
          · refine lv_iload_n hx hb dX12_rests_91 rfl (lv_at hl 5 rfl) ?_
            refine lv_iload_n hx hb dX12_rests_92 rfl (lv_at hl 6 rfl) ?_
            refine lv_iload hx hb dX12_rests_93 (lv_at hl 1 rfl) ?_
            refine lv_iconst (v := 1) hx hb dX12_rests_95 (by decide) ?_
            refine lv_iload hx hb dX12_rests_96 (lv_at hl 0 rfl) ?_
            refine lv_isub hx hb dX12_rests_98 ?_
            refine ztop (.int 0) (congrArg Value.int (by decide)) ?_
            refine scall0 (As := [.int p1, .int p2, .int 0, .int 0]) (rest := []) ⟨hx, hb, hml, hown, hts⟩ (c_mt00 l D ct p1 p2) (va_cwS 4 hts gX12_rests_X12_travellerGets rfl rfl rfl (by decide +kernel) ⟨Nat.le_of_ble_eq_true rfl, Nat.le_of_ble_eq_true rfl⟩) hw hS hA hK hN rfl rfl hl.1 rfl (Nat.le_of_ble_eq_true rfl) dX12_rests_99 (fun _ H locs hp126 hw hS => ?_)
            have hw : zPD D A [(h0, .inr (11, [.int 0, .int w_taped, .ref (y 0), .int w_size, .int w_place, .int w_begin, .int w_token, .long w_word, .int w_told, .int w_wrong, .ref (y 1), .ref (y 2), .ref (y 3), .ref (y 4), .ref (y 5), .ref (y 6), .ref (y 7), .ref (y 8), .ref (y 9), .ref (y 10), .ref (y 11), .ref (y 12), .int w_code, .int w_toldLines, .ref (y 13), .ref (y 14), .ref (y 15), .ref (y 16), .ref (y 17), .ref (y 18), .ref (y 19), .ref (y 20), .ref (y 21), .ref (y 22), .ref (y 23), .ref (y 24), .int w_given, .long w_fresh, .ref (y 25), .ref (y 26), .ref (y 27), .ref (y 28), .ref (y 29), .ref (y 30), .ref (y 31), .ref (y 32), .ref (y 33), .ref (y 34), .ref (y 35), .ref (y 36), .ref (y 37), .int w_done, .int w_moreAsked, .ref (y 38), .long w_g, .int w_gone, .int w_stopped]))] H := hw
            refine zfr 102 [.int 0] rfl rfl ?_
            refine lv_iload_n hx hb dX12_rests_102 rfl (lv_at hl 5 rfl) ?_
            refine lv_iload_n hx hb dX12_rests_103 rfl (lv_at hl 6 rfl) ?_
            refine lv_iload hx hb dX12_rests_104 (lv_at hl 1 rfl) ?_
            refine lv_iload hx hb dX12_rests_106 (lv_at hl 0 rfl) ?_
            refine scall0 (As := [.int p1, .int p2, .int 0, .int 1]) (rest := [.int 0]) ⟨hx, hb, hml, hown, hts⟩ (c_mt01 l D ct p1 p2) (va_cwS 4 hts gX12_rests_X12_travellerGets rfl rfl rfl (by decide +kernel) ⟨Nat.le_of_ble_eq_true rfl, Nat.le_of_ble_eq_true rfl⟩) hw hS hA hK hN rfl rfl hl.1 rfl (Nat.le_of_ble_eq_true rfl) dX12_rests_108 (fun _ H locs hp127 hw hS => ?_)
            have hw : zPD D A [(h0, .inr (11, [.int 0, .int w_taped, .ref (y 0), .int w_size, .int w_place, .int w_begin, .int w_token, .long w_word, .int w_told, .int w_wrong, .ref (y 1), .ref (y 2), .ref (y 3), .ref (y 4), .ref (y 5), .ref (y 6), .ref (y 7), .ref (y 8), .ref (y 9), .ref (y 10), .ref (y 11), .ref (y 12), .int w_code, .int w_toldLines, .ref (y 13), .ref (y 14), .ref (y 15), .ref (y 16), .ref (y 17), .ref (y 18), .ref (y 19), .ref (y 20), .ref (y 21), .ref (y 22), .ref (y 23), .ref (y 24), .int w_given, .long w_fresh, .ref (y 25), .ref (y 26), .ref (y 27), .ref (y 28), .ref (y 29), .ref (y 30), .ref (y 31), .ref (y 32), .ref (y 33), .ref (y 34), .ref (y 35), .ref (y 36), .ref (y 37), .int w_done, .int w_moreAsked, .ref (y 38), .long w_g, .int w_gone, .int w_stopped]))] H := hw
            refine zfr 111 [.int p2, .int 0] rfl rfl ?_
            refine lv_icmp_le (tgt := 117) hx hb dX12_rests_111 (by decide) (fun c_128 => ?_) (fun c_128 => ?_)
            · refine lv_iload hx hb dX12_rests_117 (lv_at hl 3 rfl) ?_
              refine lv_iload_n hx hb dX12_rests_119 rfl (lv_at hl 7 rfl) ?_
              refine lv_icmp_ne (tgt := 126) hx hb dX12_rests_120 (by decide) (fun c_129 => ?_) (fun c_129 => ?_)
              · refine lv_iinc (v := 1) (lv' := [(4, .int 1), (7, .int 1), (6, .int 0), (5, .int 1), (0, .ref h0), (1, .int p1), (2, .int p2), (3, .int p3)]) hx hb dX12_rests_126 hl (k := 3) rfl (by decide) (by decide) rfl (fun ls hl => ?_)
                refine lv_iinc (v := 2) (lv' := [(5, .int 2), (4, .int 1), (7, .int 1), (6, .int 0), (0, .ref h0), (1, .int p1), (2, .int p2), (3, .int p3)]) hx hb dX12_rests_129 hl (k := 3) rfl (by decide) (by decide) rfl (fun ls hl => ?_)
                refine lv_goto (tgt := 50) hx hb dX12_rests_132 (by decide) ?_
                refine lv_iload hx hb dX12_rests_50 (lv_at hl 0 rfl) ?_
                refine lv_iconst (v := 4) hx hb dX12_rests_52 (by decide) ?_
                refine lv_icmp_ge (tgt := 135) hx hb dX12_rests_53 (by decide) (fun h => absurd h (by decide)) (fun _ => ?_)
                refine lv_iload hx hb dX12_rests_56 (lv_at hl 0 rfl) ?_
                refine lv_iconst (v := 2) hx hb dX12_rests_58 (by decide) ?_
                refine lv_idiv hx hb dX12_rests_59 (by decide) ?_
                refine ztop (.int 1) (congrArg Value.int (by decide)) ?_
                refine lv_istore (lv' := [(6, .int 1), (5, .int 2), (4, .int 1), (7, .int 1), (0, .ref h0), (1, .int p1), (2, .int p2), (3, .int p3)]) hx hb dX12_rests_60 hl (by decide) rfl (fun ls hl => ?_)
                refine lv_iload hx hb dX12_rests_62 (lv_at hl 1 rfl) ?_
                refine lv_iconst (v := 2) hx hb dX12_rests_64 (by decide) ?_
                refine lv_irem hx hb dX12_rests_65 (by decide) ?_
                refine ztop (.int 0) (congrArg Value.int (by decide)) ?_
                refine lv_istore (lv' := [(7, .int 0), (6, .int 1), (5, .int 2), (4, .int 1), (0, .ref h0), (1, .int p1), (2, .int p2), (3, .int p3)]) hx hb dX12_rests_66 hl (by decide) rfl (fun ls hl => ?_)
                refine lv_iload_n hx hb dX12_rests_68 rfl (lv_at hl 5 rfl) ?_
                refine lv_iload_n hx hb dX12_rests_69 rfl (lv_at hl 6 rfl) ?_
                refine lv_iconst (v := 1) hx hb dX12_rests_70 (by decide) ?_
                refine lv_iload hx hb dX12_rests_71 (lv_at hl 1 rfl) ?_
                refine lv_isub hx hb dX12_rests_73 ?_
                refine ztop (.int 0) (congrArg Value.int (by decide)) ?_
                refine lv_iload hx hb dX12_rests_74 (lv_at hl 0 rfl) ?_
                refine scall0 (As := [.int p1, .int p2, .int 0, .int 0]) (rest := []) ⟨hx, hb, hml, hown, hts⟩ (c_mg00 l D ct p1 p2) (va_cwS 4 hts gX12_rests_X12_guardGets rfl rfl rfl (by decide +kernel) ⟨Nat.le_of_ble_eq_true rfl, Nat.le_of_ble_eq_true rfl⟩) hw hS hA hK hN rfl rfl hl.1 rfl (Nat.le_of_ble_eq_true rfl) dX12_rests_76 (fun _ H locs hp131 hw hS => ?_)
                have hw : zPD D A [(h0, .inr (11, [.int 0, .int w_taped, .ref (y 0), .int w_size, .int w_place, .int w_begin, .int w_token, .long w_word, .int w_told, .int w_wrong, .ref (y 1), .ref (y 2), .ref (y 3), .ref (y 4), .ref (y 5), .ref (y 6), .ref (y 7), .ref (y 8), .ref (y 9), .ref (y 10), .ref (y 11), .ref (y 12), .int w_code, .int w_toldLines, .ref (y 13), .ref (y 14), .ref (y 15), .ref (y 16), .ref (y 17), .ref (y 18), .ref (y 19), .ref (y 20), .ref (y 21), .ref (y 22), .ref (y 23), .ref (y 24), .int w_given, .long w_fresh, .ref (y 25), .ref (y 26), .ref (y 27), .ref (y 28), .ref (y 29), .ref (y 30), .ref (y 31), .ref (y 32), .ref (y 33), .ref (y 34), .ref (y 35), .ref (y 36), .ref (y 37), .int w_done, .int w_moreAsked, .ref (y 38), .long w_g, .int w_gone, .int w_stopped]))] H := hw
                refine zfr 79 [.int 0] rfl rfl ?_
                refine lv_iload_n hx hb dX12_rests_79 rfl (lv_at hl 5 rfl) ?_
                refine lv_iload_n hx hb dX12_rests_80 rfl (lv_at hl 6 rfl) ?_
                refine lv_iload hx hb dX12_rests_81 (lv_at hl 1 rfl) ?_
                refine lv_iload hx hb dX12_rests_83 (lv_at hl 0 rfl) ?_
                refine scall0 (As := [.int p1, .int p2, .int 1, .int 0]) (rest := [.int 0]) ⟨hx, hb, hml, hown, hts⟩ (c_mg10 l D ct p1 p2) (va_cwS 4 hts gX12_rests_X12_guardGets rfl rfl rfl (by decide +kernel) ⟨Nat.le_of_ble_eq_true rfl, Nat.le_of_ble_eq_true rfl⟩) hw hS hA hK hN rfl rfl hl.1 rfl (Nat.le_of_ble_eq_true rfl) dX12_rests_85 (fun _ H locs hp132 hw hS => ?_)
                have hw : zPD D A [(h0, .inr (11, [.int 0, .int w_taped, .ref (y 0), .int w_size, .int w_place, .int w_begin, .int w_token, .long w_word, .int w_told, .int w_wrong, .ref (y 1), .ref (y 2), .ref (y 3), .ref (y 4), .ref (y 5), .ref (y 6), .ref (y 7), .ref (y 8), .ref (y 9), .ref (y 10), .ref (y 11), .ref (y 12), .int w_code, .int w_toldLines, .ref (y 13), .ref (y 14), .ref (y 15), .ref (y 16), .ref (y 17), .ref (y 18), .ref (y 19), .ref (y 20), .ref (y 21), .ref (y 22), .ref (y 23), .ref (y 24), .int w_given, .long w_fresh, .ref (y 25), .ref (y 26), .ref (y 27), .ref (y 28), .ref (y 29), .ref (y 30), .ref (y 31), .ref (y 32), .ref (y 33), .ref (y 34), .ref (y 35), .ref (y 36), .ref (y 37), .int w_done, .int w_moreAsked, .ref (y 38), .long w_g, .int w_gone, .int w_stopped]))] H := hw
                refine zfr 88 [.int (-1), .int 0] rfl rfl ?_
                refine lv_icmp_gt (tgt := 129) hx hb dX12_rests_88 (by decide) (fun _ => ?_) (fun h => absurd (by decide) h)
                refine lv_iinc (v := 3) (lv' := [(5, .int 3), (7, .int 0), (6, .int 1), (4, .int 1), (0, .ref h0), (1, .int p1), (2, .int p2), (3, .int p3)]) hx hb dX12_rests_129 hl (k := 2) rfl (by decide) (by decide) rfl (fun ls hl => ?_)
                refine lv_goto (tgt := 50) hx hb dX12_rests_132 (by decide) ?_
                refine lv_iload hx hb dX12_rests_50 (lv_at hl 0 rfl) ?_
                refine lv_iconst (v := 4) hx hb dX12_rests_52 (by decide) ?_
                refine lv_icmp_ge (tgt := 135) hx hb dX12_rests_53 (by decide) (fun h => absurd h (by decide)) (fun _ => ?_)
                refine lv_iload hx hb dX12_rests_56 (lv_at hl 0 rfl) ?_
                refine lv_iconst (v := 2) hx hb dX12_rests_58 (by decide) ?_
                refine lv_idiv hx hb dX12_rests_59 (by decide) ?_
                refine ztop (.int 1) (congrArg Value.int (by decide)) ?_
                refine lv_istore (lv' := [(6, .int 1), (5, .int 3), (7, .int 0), (4, .int 1), (0, .ref h0), (1, .int p1), (2, .int p2), (3, .int p3)]) hx hb dX12_rests_60 hl (by decide) rfl (fun ls hl => ?_)
                refine lv_iload hx hb dX12_rests_62 (lv_at hl 1 rfl) ?_
                refine lv_iconst (v := 2) hx hb dX12_rests_64 (by decide) ?_
                refine lv_irem hx hb dX12_rests_65 (by decide) ?_
                refine ztop (.int 1) (congrArg Value.int (by decide)) ?_
                refine lv_istore (lv' := [(7, .int 1), (6, .int 1), (5, .int 3), (4, .int 1), (0, .ref h0), (1, .int p1), (2, .int p2), (3, .int p3)]) hx hb dX12_rests_66 hl (by decide) rfl (fun ls hl => ?_)
                refine lv_iload_n hx hb dX12_rests_68 rfl (lv_at hl 5 rfl) ?_
                refine lv_iload_n hx hb dX12_rests_69 rfl (lv_at hl 6 rfl) ?_
                refine lv_iconst (v := 1) hx hb dX12_rests_70 (by decide) ?_
                refine lv_iload hx hb dX12_rests_71 (lv_at hl 1 rfl) ?_
                refine lv_isub hx hb dX12_rests_73 ?_
                refine ztop (.int 0) (congrArg Value.int (by decide)) ?_
                refine lv_iload hx hb dX12_rests_74 (lv_at hl 0 rfl) ?_
                refine scall0 (As := [.int p1, .int p2, .int 0, .int 1]) (rest := []) ⟨hx, hb, hml, hown, hts⟩ (c_mg01 l D ct p1 p2) (va_cwS 4 hts gX12_rests_X12_guardGets rfl rfl rfl (by decide +kernel) ⟨Nat.le_of_ble_eq_true rfl, Nat.le_of_ble_eq_true rfl⟩) hw hS hA hK hN rfl rfl hl.1 rfl (Nat.le_of_ble_eq_true rfl) dX12_rests_76 (fun _ H locs hp135 hw hS => ?_)
                have hw : zPD D A [(h0, .inr (11, [.int 0, .int w_taped, .ref (y 0), .int w_size, .int w_place, .int w_begin, .int w_token, .long w_word, .int w_told, .int w_wrong, .ref (y 1), .ref (y 2), .ref (y 3), .ref (y 4), .ref (y 5), .ref (y 6), .ref (y 7), .ref (y 8), .ref (y 9), .ref (y 10), .ref (y 11), .ref (y 12), .int w_code, .int w_toldLines, .ref (y 13), .ref (y 14), .ref (y 15), .ref (y 16), .ref (y 17), .ref (y 18), .ref (y 19), .ref (y 20), .ref (y 21), .ref (y 22), .ref (y 23), .ref (y 24), .int w_given, .long w_fresh, .ref (y 25), .ref (y 26), .ref (y 27), .ref (y 28), .ref (y 29), .ref (y 30), .ref (y 31), .ref (y 32), .ref (y 33), .ref (y 34), .ref (y 35), .ref (y 36), .ref (y 37), .int w_done, .int w_moreAsked, .ref (y 38), .long w_g, .int w_gone, .int w_stopped]))] H := hw
                refine zfr 79 [.int (-p2)] rfl rfl ?_
                refine lv_iload_n hx hb dX12_rests_79 rfl (lv_at hl 5 rfl) ?_
                refine lv_iload_n hx hb dX12_rests_80 rfl (lv_at hl 6 rfl) ?_
                refine lv_iload hx hb dX12_rests_81 (lv_at hl 1 rfl) ?_
                refine lv_iload hx hb dX12_rests_83 (lv_at hl 0 rfl) ?_
                refine scall0 (As := [.int p1, .int p2, .int 1, .int 1]) (rest := [.int (-p2)]) ⟨hx, hb, hml, hown, hts⟩ (c_mg11 l D ct p1 p2) (va_cwS 4 hts gX12_rests_X12_guardGets rfl rfl rfl (by decide +kernel) ⟨Nat.le_of_ble_eq_true rfl, Nat.le_of_ble_eq_true rfl⟩) hw hS hA hK hN rfl rfl hl.1 rfl (Nat.le_of_ble_eq_true rfl) dX12_rests_85 (fun _ H locs hp136 hw hS => ?_)
                have hw : zPD D A [(h0, .inr (11, [.int 0, .int w_taped, .ref (y 0), .int w_size, .int w_place, .int w_begin, .int w_token, .long w_word, .int w_told, .int w_wrong, .ref (y 1), .ref (y 2), .ref (y 3), .ref (y 4), .ref (y 5), .ref (y 6), .ref (y 7), .ref (y 8), .ref (y 9), .ref (y 10), .ref (y 11), .ref (y 12), .int w_code, .int w_toldLines, .ref (y 13), .ref (y 14), .ref (y 15), .ref (y 16), .ref (y 17), .ref (y 18), .ref (y 19), .ref (y 20), .ref (y 21), .ref (y 22), .ref (y 23), .ref (y 24), .int w_given, .long w_fresh, .ref (y 25), .ref (y 26), .ref (y 27), .ref (y 28), .ref (y 29), .ref (y 30), .ref (y 31), .ref (y 32), .ref (y 33), .ref (y 34), .ref (y 35), .ref (y 36), .ref (y 37), .int w_done, .int w_moreAsked, .ref (y 38), .long w_g, .int w_gone, .int w_stopped]))] H := hw
                refine zfr 88 [.int p1, .int (-p2)] rfl rfl ?_
                refine lv_icmp_gt (tgt := 129) hx hb dX12_rests_88 (by decide) (fun c_137 => ?_) (fun c_137 => ?_)
                · refine lv_iinc (v := 4) (lv' := [(5, .int 4), (7, .int 1), (6, .int 1), (4, .int 1), (0, .ref h0), (1, .int p1), (2, .int p2), (3, .int p3)]) hx hb dX12_rests_129 hl (k := 2) rfl (by decide) (by decide) rfl (fun ls hl => ?_)
                  refine lv_goto (tgt := 50) hx hb dX12_rests_132 (by decide) ?_
                  refine lv_iload hx hb dX12_rests_50 (lv_at hl 0 rfl) ?_
                  refine lv_iconst (v := 4) hx hb dX12_rests_52 (by decide) ?_
                  refine lv_icmp_ge (tgt := 135) hx hb dX12_rests_53 (by decide) (fun _ => ?_) (fun h => absurd (by decide) h)
                  refine lv_aload_n hx hb dX12_rests_135 rfl (lv_at hl 4 rfl) ?_
                  refine lv_iload_n hx hb dX12_rests_136 rfl (lv_at hl 7 rfl) ?_
                  refine lv_iconst (v := (-1)) hx hb dX12_rests_137 (by decide) ?_
                  refine lv_icmp_ne (tgt := 145) hx hb dX12_rests_138 (by decide) (fun c_139 => ?_) (fun c_139 => ?_)
                  · refine lv_iconst (v := 1) hx hb dX12_rests_145 (by decide) ?_
                    refine zput (D := D) (ci := 11) (v := .int 1) (ty := .int) hx hb hts hiX12 tyX12 tyX12_ok nmX12 hown hK hw hS 0 rfl rfl 0 (by decide) (hts (.fieldLink RX12 129 "BeardPassModel" "thrown" "I") (by decide +kernel)) (fun _ h9 => h9) rfl (by decide +kernel) rfl rfl (Nat.le_of_ble_eq_true rfl) dX12_rests_146 [(h0, .inr (11, [.int 1, .int w_taped, .ref (y 0), .int w_size, .int w_place, .int w_begin, .int w_token, .long w_word, .int w_told, .int w_wrong, .ref (y 1), .ref (y 2), .ref (y 3), .ref (y 4), .ref (y 5), .ref (y 6), .ref (y 7), .ref (y 8), .ref (y 9), .ref (y 10), .ref (y 11), .ref (y 12), .int w_code, .int w_toldLines, .ref (y 13), .ref (y 14), .ref (y 15), .ref (y 16), .ref (y 17), .ref (y 18), .ref (y 19), .ref (y 20), .ref (y 21), .ref (y 22), .ref (y 23), .ref (y 24), .int w_given, .long w_fresh, .ref (y 25), .ref (y 26), .ref (y 27), .ref (y 28), .ref (y 29), .ref (y 30), .ref (y 31), .ref (y 32), .ref (y 33), .ref (y 34), .ref (y 35), .ref (y 36), .ref (y 37), .int w_done, .int w_moreAsked, .ref (y 38), .long w_g, .int w_gone, .int w_stopped]))] rfl (fun H locs hw hS => ?_)
                    refine lv_iload_n hx hb dX12_rests_149 rfl (lv_at hl 7 rfl) ?_
                    refine lv_iconst (v := (-1)) hx hb dX12_rests_150 (by decide) ?_
                    refine lv_icmp_ne (tgt := 159) hx hb dX12_rests_151 (by decide) (fun _ => ?_) (fun h => absurd h (c_139))
                    refine lv_iconst (v := 0) hx hb dX12_rests_159 (by decide) ?_
                    exact ziret hx hb hr (rfl) hlocks () (congrArg (fun z => some (Value.int z)) (zrv_none (by rw [zrs, if_neg c_2, if_neg c_5, if_pos (zsge (r := p1) (w := p2) c_7), zrq0, if_pos (show zat0 p2 = 0 from if_neg c_16), zrq1, if_neg (show ¬ zat1 p1 p2 = 0 by rw [zat1, if_neg c_101, if_pos c_128]; decide), if_neg c_129, zrq3, if_pos (show zat3 p1 p2 = 0 from if_pos c_137), zrq4, if_neg c_139]))) (trivial) hw [0] rfl (by rw [show zth p1 p2 p3 = 1 from zth_none (by rw [zrs, if_neg c_2, if_neg c_5, if_pos (zsge (r := p1) (w := p2) c_7), zrq0, if_pos (show zat0 p2 = 0 from if_neg c_16), zrq1, if_neg (show ¬ zat1 p1 p2 = 0 by rw [zat1, if_neg c_101, if_pos c_128]; decide), if_neg c_129, zrq3, if_pos (show zat3 p1 p2 = 0 from if_pos c_137), zrq4, if_neg c_139])]; rfl) hS (Nat.le_of_ble_eq_true rfl) (Nat.le_of_ble_eq_true rfl) dX12_rests_160
                  · refine lv_iconst (v := 0) hx hb dX12_rests_141 (by decide) ?_
                    refine lv_goto (tgt := 146) hx hb dX12_rests_142 (by decide) ?_
                    refine zput (D := D) (ci := 11) (v := .int 0) (ty := .int) hx hb hts hiX12 tyX12 tyX12_ok nmX12 hown hK hw hS 0 rfl rfl 0 (by decide) (hts (.fieldLink RX12 129 "BeardPassModel" "thrown" "I") (by decide +kernel)) (fun _ h9 => h9) rfl (by decide +kernel) rfl rfl (Nat.le_of_ble_eq_true rfl) dX12_rests_146 [(h0, .inr (11, [.int 0, .int w_taped, .ref (y 0), .int w_size, .int w_place, .int w_begin, .int w_token, .long w_word, .int w_told, .int w_wrong, .ref (y 1), .ref (y 2), .ref (y 3), .ref (y 4), .ref (y 5), .ref (y 6), .ref (y 7), .ref (y 8), .ref (y 9), .ref (y 10), .ref (y 11), .ref (y 12), .int w_code, .int w_toldLines, .ref (y 13), .ref (y 14), .ref (y 15), .ref (y 16), .ref (y 17), .ref (y 18), .ref (y 19), .ref (y 20), .ref (y 21), .ref (y 22), .ref (y 23), .ref (y 24), .int w_given, .long w_fresh, .ref (y 25), .ref (y 26), .ref (y 27), .ref (y 28), .ref (y 29), .ref (y 30), .ref (y 31), .ref (y 32), .ref (y 33), .ref (y 34), .ref (y 35), .ref (y 36), .ref (y 37), .int w_done, .int w_moreAsked, .ref (y 38), .long w_g, .int w_gone, .int w_stopped]))] rfl (fun H locs hw hS => ?_)
                    refine lv_iload_n hx hb dX12_rests_149 rfl (lv_at hl 7 rfl) ?_
                    refine lv_iconst (v := (-1)) hx hb dX12_rests_150 (by decide) ?_
                    refine lv_icmp_ne (tgt := 159) hx hb dX12_rests_151 (by decide) (fun h => absurd (c_139) h) (fun _ => ?_)
                    refine lv_iload hx hb dX12_rests_154 (lv_at hl 3 rfl) ?_
                    refine lv_goto (tgt := 160) hx hb dX12_rests_156 (by decide) ?_
                    exact ziret hx hb hr (rfl) hlocks () (congrArg (fun z => some (Value.int z)) (zrv_some (by rw [zrs, if_neg c_2, if_neg c_5, if_pos (zsge (r := p1) (w := p2) c_7), zrq0, if_pos (show zat0 p2 = 0 from if_neg c_16), zrq1, if_neg (show ¬ zat1 p1 p2 = 0 by rw [zat1, if_neg c_101, if_pos c_128]; decide), if_neg c_129, zrq3, if_pos (show zat3 p1 p2 = 0 from if_pos c_137), zrq4, if_pos c_139]))) (trivial) hw [0] rfl (by rw [show zth p1 p2 p3 = 0 from zth_some (v := 1) (by rw [zrs, if_neg c_2, if_neg c_5, if_pos (zsge (r := p1) (w := p2) c_7), zrq0, if_pos (show zat0 p2 = 0 from if_neg c_16), zrq1, if_neg (show ¬ zat1 p1 p2 = 0 by rw [zat1, if_neg c_101, if_pos c_128]; decide), if_neg c_129, zrq3, if_pos (show zat3 p1 p2 = 0 from if_pos c_137), zrq4, if_pos c_139])]; rfl) hS (Nat.le_of_ble_eq_true rfl) (Nat.le_of_ble_eq_true rfl) dX12_rests_160
                · refine lv_iload_n hx hb dX12_rests_91 rfl (lv_at hl 5 rfl) ?_
                  refine lv_iload_n hx hb dX12_rests_92 rfl (lv_at hl 6 rfl) ?_
                  refine lv_iload hx hb dX12_rests_93 (lv_at hl 1 rfl) ?_
                  refine lv_iconst (v := 1) hx hb dX12_rests_95 (by decide) ?_
                  refine lv_iload hx hb dX12_rests_96 (lv_at hl 0 rfl) ?_
                  refine lv_isub hx hb dX12_rests_98 ?_
                  refine ztop (.int 0) (congrArg Value.int (by decide)) ?_
                  refine scall0 (As := [.int p1, .int p2, .int 1, .int 0]) (rest := []) ⟨hx, hb, hml, hown, hts⟩ (c_mt10 l D ct p1 p2) (va_cwS 4 hts gX12_rests_X12_travellerGets rfl rfl rfl (by decide +kernel) ⟨Nat.le_of_ble_eq_true rfl, Nat.le_of_ble_eq_true rfl⟩) hw hS hA hK hN rfl rfl hl.1 rfl (Nat.le_of_ble_eq_true rfl) dX12_rests_99 (fun _ H locs hp142 hw hS => ?_)
                  have hw : zPD D A [(h0, .inr (11, [.int 0, .int w_taped, .ref (y 0), .int w_size, .int w_place, .int w_begin, .int w_token, .long w_word, .int w_told, .int w_wrong, .ref (y 1), .ref (y 2), .ref (y 3), .ref (y 4), .ref (y 5), .ref (y 6), .ref (y 7), .ref (y 8), .ref (y 9), .ref (y 10), .ref (y 11), .ref (y 12), .int w_code, .int w_toldLines, .ref (y 13), .ref (y 14), .ref (y 15), .ref (y 16), .ref (y 17), .ref (y 18), .ref (y 19), .ref (y 20), .ref (y 21), .ref (y 22), .ref (y 23), .ref (y 24), .int w_given, .long w_fresh, .ref (y 25), .ref (y 26), .ref (y 27), .ref (y 28), .ref (y 29), .ref (y 30), .ref (y 31), .ref (y 32), .ref (y 33), .ref (y 34), .ref (y 35), .ref (y 36), .ref (y 37), .int w_done, .int w_moreAsked, .ref (y 38), .long w_g, .int w_gone, .int w_stopped]))] H := hw
                  refine zfr 102 [.int 0] rfl rfl ?_
                  refine lv_iload_n hx hb dX12_rests_102 rfl (lv_at hl 5 rfl) ?_
                  refine lv_iload_n hx hb dX12_rests_103 rfl (lv_at hl 6 rfl) ?_
                  refine lv_iload hx hb dX12_rests_104 (lv_at hl 1 rfl) ?_
                  refine lv_iload hx hb dX12_rests_106 (lv_at hl 0 rfl) ?_
                  refine scall0 (As := [.int p1, .int p2, .int 1, .int 1]) (rest := [.int 0]) ⟨hx, hb, hml, hown, hts⟩ (c_mt11 l D ct p1 p2) (va_cwS 4 hts gX12_rests_X12_travellerGets rfl rfl rfl (by decide +kernel) ⟨Nat.le_of_ble_eq_true rfl, Nat.le_of_ble_eq_true rfl⟩) hw hS hA hK hN rfl rfl hl.1 rfl (Nat.le_of_ble_eq_true rfl) dX12_rests_108 (fun _ H locs hp143 hw hS => ?_)
                  have hw : zPD D A [(h0, .inr (11, [.int 0, .int w_taped, .ref (y 0), .int w_size, .int w_place, .int w_begin, .int w_token, .long w_word, .int w_told, .int w_wrong, .ref (y 1), .ref (y 2), .ref (y 3), .ref (y 4), .ref (y 5), .ref (y 6), .ref (y 7), .ref (y 8), .ref (y 9), .ref (y 10), .ref (y 11), .ref (y 12), .int w_code, .int w_toldLines, .ref (y 13), .ref (y 14), .ref (y 15), .ref (y 16), .ref (y 17), .ref (y 18), .ref (y 19), .ref (y 20), .ref (y 21), .ref (y 22), .ref (y 23), .ref (y 24), .int w_given, .long w_fresh, .ref (y 25), .ref (y 26), .ref (y 27), .ref (y 28), .ref (y 29), .ref (y 30), .ref (y 31), .ref (y 32), .ref (y 33), .ref (y 34), .ref (y 35), .ref (y 36), .ref (y 37), .int w_done, .int w_moreAsked, .ref (y 38), .long w_g, .int w_gone, .int w_stopped]))] H := hw
                  refine zfr 111 [.int (-p1), .int 0] rfl rfl ?_
                  refine lv_icmp_le (tgt := 117) hx hb dX12_rests_111 (by decide) (fun c_144 => ?_) (fun c_144 => ?_)
                  · refine lv_iload hx hb dX12_rests_117 (lv_at hl 3 rfl) ?_
                    refine lv_iload_n hx hb dX12_rests_119 rfl (lv_at hl 7 rfl) ?_
                    refine lv_icmp_ne (tgt := 126) hx hb dX12_rests_120 (by decide) (fun c_145 => ?_) (fun c_145 => ?_)
                    · refine lv_iinc (v := 2) (lv' := [(4, .int 2), (7, .int 1), (6, .int 1), (5, .int 3), (0, .ref h0), (1, .int p1), (2, .int p2), (3, .int p3)]) hx hb dX12_rests_126 hl (k := 3) rfl (by decide) (by decide) rfl (fun ls hl => ?_)
                      refine lv_iinc (v := 4) (lv' := [(5, .int 4), (4, .int 2), (7, .int 1), (6, .int 1), (0, .ref h0), (1, .int p1), (2, .int p2), (3, .int p3)]) hx hb dX12_rests_129 hl (k := 3) rfl (by decide) (by decide) rfl (fun ls hl => ?_)
                      refine lv_goto (tgt := 50) hx hb dX12_rests_132 (by decide) ?_
                      refine lv_iload hx hb dX12_rests_50 (lv_at hl 0 rfl) ?_
                      refine lv_iconst (v := 4) hx hb dX12_rests_52 (by decide) ?_
                      refine lv_icmp_ge (tgt := 135) hx hb dX12_rests_53 (by decide) (fun _ => ?_) (fun h => absurd (by decide) h)
                      refine lv_aload_n hx hb dX12_rests_135 rfl (lv_at hl 4 rfl) ?_
                      refine lv_iload_n hx hb dX12_rests_136 rfl (lv_at hl 7 rfl) ?_
                      refine lv_iconst (v := (-1)) hx hb dX12_rests_137 (by decide) ?_
                      refine lv_icmp_ne (tgt := 145) hx hb dX12_rests_138 (by decide) (fun c_147 => ?_) (fun c_147 => ?_)
                      · refine lv_iconst (v := 1) hx hb dX12_rests_145 (by decide) ?_
                        refine zput (D := D) (ci := 11) (v := .int 1) (ty := .int) hx hb hts hiX12 tyX12 tyX12_ok nmX12 hown hK hw hS 0 rfl rfl 0 (by decide) (hts (.fieldLink RX12 129 "BeardPassModel" "thrown" "I") (by decide +kernel)) (fun _ h9 => h9) rfl (by decide +kernel) rfl rfl (Nat.le_of_ble_eq_true rfl) dX12_rests_146 [(h0, .inr (11, [.int 1, .int w_taped, .ref (y 0), .int w_size, .int w_place, .int w_begin, .int w_token, .long w_word, .int w_told, .int w_wrong, .ref (y 1), .ref (y 2), .ref (y 3), .ref (y 4), .ref (y 5), .ref (y 6), .ref (y 7), .ref (y 8), .ref (y 9), .ref (y 10), .ref (y 11), .ref (y 12), .int w_code, .int w_toldLines, .ref (y 13), .ref (y 14), .ref (y 15), .ref (y 16), .ref (y 17), .ref (y 18), .ref (y 19), .ref (y 20), .ref (y 21), .ref (y 22), .ref (y 23), .ref (y 24), .int w_given, .long w_fresh, .ref (y 25), .ref (y 26), .ref (y 27), .ref (y 28), .ref (y 29), .ref (y 30), .ref (y 31), .ref (y 32), .ref (y 33), .ref (y 34), .ref (y 35), .ref (y 36), .ref (y 37), .int w_done, .int w_moreAsked, .ref (y 38), .long w_g, .int w_gone, .int w_stopped]))] rfl (fun H locs hw hS => ?_)
                        refine lv_iload_n hx hb dX12_rests_149 rfl (lv_at hl 7 rfl) ?_
                        refine lv_iconst (v := (-1)) hx hb dX12_rests_150 (by decide) ?_
                        refine lv_icmp_ne (tgt := 159) hx hb dX12_rests_151 (by decide) (fun _ => ?_) (fun h => absurd h (c_147))
                        refine lv_iconst (v := 0) hx hb dX12_rests_159 (by decide) ?_
                        exact ziret hx hb hr (rfl) hlocks () (congrArg (fun z => some (Value.int z)) (zrv_none (by rw [zrs, if_neg c_2, if_neg c_5, if_pos (zsge (r := p1) (w := p2) c_7), zrq0, if_pos (show zat0 p2 = 0 from if_neg c_16), zrq1, if_neg (show ¬ zat1 p1 p2 = 0 by rw [zat1, if_neg c_101, if_pos c_128]; decide), if_neg c_129, zrq3, if_neg (show ¬ zat3 p1 p2 = 0 by rw [zat3, if_neg c_137, if_pos c_144]; decide), if_neg c_145, zrq4, if_neg c_147]))) (trivial) hw [0] rfl (by rw [show zth p1 p2 p3 = 1 from zth_none (by rw [zrs, if_neg c_2, if_neg c_5, if_pos (zsge (r := p1) (w := p2) c_7), zrq0, if_pos (show zat0 p2 = 0 from if_neg c_16), zrq1, if_neg (show ¬ zat1 p1 p2 = 0 by rw [zat1, if_neg c_101, if_pos c_128]; decide), if_neg c_129, zrq3, if_neg (show ¬ zat3 p1 p2 = 0 by rw [zat3, if_neg c_137, if_pos c_144]; decide), if_neg c_145, zrq4, if_neg c_147])]; rfl) hS (Nat.le_of_ble_eq_true rfl) (Nat.le_of_ble_eq_true rfl) dX12_rests_160
                      · refine lv_iconst (v := 0) hx hb dX12_rests_141 (by decide) ?_
                        refine lv_goto (tgt := 146) hx hb dX12_rests_142 (by decide) ?_
                        refine zput (D := D) (ci := 11) (v := .int 0) (ty := .int) hx hb hts hiX12 tyX12 tyX12_ok nmX12 hown hK hw hS 0 rfl rfl 0 (by decide) (hts (.fieldLink RX12 129 "BeardPassModel" "thrown" "I") (by decide +kernel)) (fun _ h9 => h9) rfl (by decide +kernel) rfl rfl (Nat.le_of_ble_eq_true rfl) dX12_rests_146 [(h0, .inr (11, [.int 0, .int w_taped, .ref (y 0), .int w_size, .int w_place, .int w_begin, .int w_token, .long w_word, .int w_told, .int w_wrong, .ref (y 1), .ref (y 2), .ref (y 3), .ref (y 4), .ref (y 5), .ref (y 6), .ref (y 7), .ref (y 8), .ref (y 9), .ref (y 10), .ref (y 11), .ref (y 12), .int w_code, .int w_toldLines, .ref (y 13), .ref (y 14), .ref (y 15), .ref (y 16), .ref (y 17), .ref (y 18), .ref (y 19), .ref (y 20), .ref (y 21), .ref (y 22), .ref (y 23), .ref (y 24), .int w_given, .long w_fresh, .ref (y 25), .ref (y 26), .ref (y 27), .ref (y 28), .ref (y 29), .ref (y 30), .ref (y 31), .ref (y 32), .ref (y 33), .ref (y 34), .ref (y 35), .ref (y 36), .ref (y 37), .int w_done, .int w_moreAsked, .ref (y 38), .long w_g, .int w_gone, .int w_stopped]))] rfl (fun H locs hw hS => ?_)
                        refine lv_iload_n hx hb dX12_rests_149 rfl (lv_at hl 7 rfl) ?_
                        refine lv_iconst (v := (-1)) hx hb dX12_rests_150 (by decide) ?_
                        refine lv_icmp_ne (tgt := 159) hx hb dX12_rests_151 (by decide) (fun h => absurd (c_147) h) (fun _ => ?_)
                        refine lv_iload hx hb dX12_rests_154 (lv_at hl 1 rfl) ?_
                        refine lv_goto (tgt := 160) hx hb dX12_rests_156 (by decide) ?_
                        exact ziret hx hb hr (rfl) hlocks () (congrArg (fun z => some (Value.int z)) (zrv_some (by rw [zrs, if_neg c_2, if_neg c_5, if_pos (zsge (r := p1) (w := p2) c_7), zrq0, if_pos (show zat0 p2 = 0 from if_neg c_16), zrq1, if_neg (show ¬ zat1 p1 p2 = 0 by rw [zat1, if_neg c_101, if_pos c_128]; decide), if_neg c_129, zrq3, if_neg (show ¬ zat3 p1 p2 = 0 by rw [zat3, if_neg c_137, if_pos c_144]; decide), if_neg c_145, zrq4, if_pos c_147]))) (trivial) hw [0] rfl (by rw [show zth p1 p2 p3 = 0 from zth_some (v := 2) (by rw [zrs, if_neg c_2, if_neg c_5, if_pos (zsge (r := p1) (w := p2) c_7), zrq0, if_pos (show zat0 p2 = 0 from if_neg c_16), zrq1, if_neg (show ¬ zat1 p1 p2 = 0 by rw [zat1, if_neg c_101, if_pos c_128]; decide), if_neg c_129, zrq3, if_neg (show ¬ zat3 p1 p2 = 0 by rw [zat3, if_neg c_137, if_pos c_144]; decide), if_neg c_145, zrq4, if_pos c_147])]; rfl) hS (Nat.le_of_ble_eq_true rfl) (Nat.le_of_ble_eq_true rfl) dX12_rests_160
                    · refine lv_iload hx hb dX12_rests_123 (lv_at hl 2 rfl) ?_
                      exact ziret hx hb hr (rfl) hlocks () (congrArg (fun z => some (Value.int z)) (zrv_some (by rw [zrs, if_neg c_2, if_neg c_5, if_pos (zsge (r := p1) (w := p2) c_7), zrq0, if_pos (show zat0 p2 = 0 from if_neg c_16), zrq1, if_neg (show ¬ zat1 p1 p2 = 0 by rw [zat1, if_neg c_101, if_pos c_128]; decide), if_neg c_129, zrq3, if_neg (show ¬ zat3 p1 p2 = 0 by rw [zat3, if_neg c_137, if_pos c_144]; decide), if_pos c_145]))) (trivial) hw [0] rfl (by rw [show zth p1 p2 p3 = 0 from zth_some (v := 3) (by rw [zrs, if_neg c_2, if_neg c_5, if_pos (zsge (r := p1) (w := p2) c_7), zrq0, if_pos (show zat0 p2 = 0 from if_neg c_16), zrq1, if_neg (show ¬ zat1 p1 p2 = 0 by rw [zat1, if_neg c_101, if_pos c_128]; decide), if_neg c_129, zrq3, if_neg (show ¬ zat3 p1 p2 = 0 by rw [zat3, if_neg c_137, if_pos c_144]; decide), if_pos c_145])]; rfl) hS (Nat.le_of_ble_eq_true rfl) (Nat.le_of_ble_eq_true rfl) dX12_rests_125
                  · refine lv_goto (tgt := 129) hx hb dX12_rests_114 (by decide) ?_
                    refine lv_iinc (v := 4) (lv' := [(5, .int 4), (7, .int 1), (6, .int 1), (4, .int 1), (0, .ref h0), (1, .int p1), (2, .int p2), (3, .int p3)]) hx hb dX12_rests_129 hl (k := 2) rfl (by decide) (by decide) rfl (fun ls hl => ?_)
                    refine lv_goto (tgt := 50) hx hb dX12_rests_132 (by decide) ?_
                    refine lv_iload hx hb dX12_rests_50 (lv_at hl 0 rfl) ?_
                    refine lv_iconst (v := 4) hx hb dX12_rests_52 (by decide) ?_
                    refine lv_icmp_ge (tgt := 135) hx hb dX12_rests_53 (by decide) (fun _ => ?_) (fun h => absurd (by decide) h)
                    refine lv_aload_n hx hb dX12_rests_135 rfl (lv_at hl 4 rfl) ?_
                    refine lv_iload_n hx hb dX12_rests_136 rfl (lv_at hl 7 rfl) ?_
                    refine lv_iconst (v := (-1)) hx hb dX12_rests_137 (by decide) ?_
                    refine lv_icmp_ne (tgt := 145) hx hb dX12_rests_138 (by decide) (fun c_151 => ?_) (fun c_151 => ?_)
                    · refine lv_iconst (v := 1) hx hb dX12_rests_145 (by decide) ?_
                      refine zput (D := D) (ci := 11) (v := .int 1) (ty := .int) hx hb hts hiX12 tyX12 tyX12_ok nmX12 hown hK hw hS 0 rfl rfl 0 (by decide) (hts (.fieldLink RX12 129 "BeardPassModel" "thrown" "I") (by decide +kernel)) (fun _ h9 => h9) rfl (by decide +kernel) rfl rfl (Nat.le_of_ble_eq_true rfl) dX12_rests_146 [(h0, .inr (11, [.int 1, .int w_taped, .ref (y 0), .int w_size, .int w_place, .int w_begin, .int w_token, .long w_word, .int w_told, .int w_wrong, .ref (y 1), .ref (y 2), .ref (y 3), .ref (y 4), .ref (y 5), .ref (y 6), .ref (y 7), .ref (y 8), .ref (y 9), .ref (y 10), .ref (y 11), .ref (y 12), .int w_code, .int w_toldLines, .ref (y 13), .ref (y 14), .ref (y 15), .ref (y 16), .ref (y 17), .ref (y 18), .ref (y 19), .ref (y 20), .ref (y 21), .ref (y 22), .ref (y 23), .ref (y 24), .int w_given, .long w_fresh, .ref (y 25), .ref (y 26), .ref (y 27), .ref (y 28), .ref (y 29), .ref (y 30), .ref (y 31), .ref (y 32), .ref (y 33), .ref (y 34), .ref (y 35), .ref (y 36), .ref (y 37), .int w_done, .int w_moreAsked, .ref (y 38), .long w_g, .int w_gone, .int w_stopped]))] rfl (fun H locs hw hS => ?_)
                      refine lv_iload_n hx hb dX12_rests_149 rfl (lv_at hl 7 rfl) ?_
                      refine lv_iconst (v := (-1)) hx hb dX12_rests_150 (by decide) ?_
                      refine lv_icmp_ne (tgt := 159) hx hb dX12_rests_151 (by decide) (fun _ => ?_) (fun h => absurd h (c_151))
                      refine lv_iconst (v := 0) hx hb dX12_rests_159 (by decide) ?_
                      exact ziret hx hb hr (rfl) hlocks () (congrArg (fun z => some (Value.int z)) (zrv_none (by rw [zrs, if_neg c_2, if_neg c_5, if_pos (zsge (r := p1) (w := p2) c_7), zrq0, if_pos (show zat0 p2 = 0 from if_neg c_16), zrq1, if_neg (show ¬ zat1 p1 p2 = 0 by rw [zat1, if_neg c_101, if_pos c_128]; decide), if_neg c_129, zrq3, if_pos (show zat3 p1 p2 = 0 from (if_neg c_137).trans (if_neg c_144)), zrq4, if_neg c_151]))) (trivial) hw [0] rfl (by rw [show zth p1 p2 p3 = 1 from zth_none (by rw [zrs, if_neg c_2, if_neg c_5, if_pos (zsge (r := p1) (w := p2) c_7), zrq0, if_pos (show zat0 p2 = 0 from if_neg c_16), zrq1, if_neg (show ¬ zat1 p1 p2 = 0 by rw [zat1, if_neg c_101, if_pos c_128]; decide), if_neg c_129, zrq3, if_pos (show zat3 p1 p2 = 0 from (if_neg c_137).trans (if_neg c_144)), zrq4, if_neg c_151])]; rfl) hS (Nat.le_of_ble_eq_true rfl) (Nat.le_of_ble_eq_true rfl) dX12_rests_160
                    · refine lv_iconst (v := 0) hx hb dX12_rests_141 (by decide) ?_
                      refine lv_goto (tgt := 146) hx hb dX12_rests_142 (by decide) ?_
                      refine zput (D := D) (ci := 11) (v := .int 0) (ty := .int) hx hb hts hiX12 tyX12 tyX12_ok nmX12 hown hK hw hS 0 rfl rfl 0 (by decide) (hts (.fieldLink RX12 129 "BeardPassModel" "thrown" "I") (by decide +kernel)) (fun _ h9 => h9) rfl (by decide +kernel) rfl rfl (Nat.le_of_ble_eq_true rfl) dX12_rests_146 [(h0, .inr (11, [.int 0, .int w_taped, .ref (y 0), .int w_size, .int w_place, .int w_begin, .int w_token, .long w_word, .int w_told, .int w_wrong, .ref (y 1), .ref (y 2), .ref (y 3), .ref (y 4), .ref (y 5), .ref (y 6), .ref (y 7), .ref (y 8), .ref (y 9), .ref (y 10), .ref (y 11), .ref (y 12), .int w_code, .int w_toldLines, .ref (y 13), .ref (y 14), .ref (y 15), .ref (y 16), .ref (y 17), .ref (y 18), .ref (y 19), .ref (y 20), .ref (y 21), .ref (y 22), .ref (y 23), .ref (y 24), .int w_given, .long w_fresh, .ref (y 25), .ref (y 26), .ref (y 27), .ref (y 28), .ref (y 29), .ref (y 30), .ref (y 31), .ref (y 32), .ref (y 33), .ref (y 34), .ref (y 35), .ref (y 36), .ref (y 37), .int w_done, .int w_moreAsked, .ref (y 38), .long w_g, .int w_gone, .int w_stopped]))] rfl (fun H locs hw hS => ?_)
                      refine lv_iload_n hx hb dX12_rests_149 rfl (lv_at hl 7 rfl) ?_
                      refine lv_iconst (v := (-1)) hx hb dX12_rests_150 (by decide) ?_
                      refine lv_icmp_ne (tgt := 159) hx hb dX12_rests_151 (by decide) (fun h => absurd (c_151) h) (fun _ => ?_)
                      refine lv_iload hx hb dX12_rests_154 (lv_at hl 3 rfl) ?_
                      refine lv_goto (tgt := 160) hx hb dX12_rests_156 (by decide) ?_
                      exact ziret hx hb hr (rfl) hlocks () (congrArg (fun z => some (Value.int z)) (zrv_some (by rw [zrs, if_neg c_2, if_neg c_5, if_pos (zsge (r := p1) (w := p2) c_7), zrq0, if_pos (show zat0 p2 = 0 from if_neg c_16), zrq1, if_neg (show ¬ zat1 p1 p2 = 0 by rw [zat1, if_neg c_101, if_pos c_128]; decide), if_neg c_129, zrq3, if_pos (show zat3 p1 p2 = 0 from (if_neg c_137).trans (if_neg c_144)), zrq4, if_pos c_151]))) (trivial) hw [0] rfl (by rw [show zth p1 p2 p3 = 0 from zth_some (v := 1) (by rw [zrs, if_neg c_2, if_neg c_5, if_pos (zsge (r := p1) (w := p2) c_7), zrq0, if_pos (show zat0 p2 = 0 from if_neg c_16), zrq1, if_neg (show ¬ zat1 p1 p2 = 0 by rw [zat1, if_neg c_101, if_pos c_128]; decide), if_neg c_129, zrq3, if_pos (show zat3 p1 p2 = 0 from (if_neg c_137).trans (if_neg c_144)), zrq4, if_pos c_151])]; rfl) hS (Nat.le_of_ble_eq_true rfl) (Nat.le_of_ble_eq_true rfl) dX12_rests_160
              · refine lv_iload hx hb dX12_rests_123 (lv_at hl 2 rfl) ?_
                exact ziret hx hb hr (rfl) hlocks () (congrArg (fun z => some (Value.int z)) (zrv_some (by rw [zrs, if_neg c_2, if_neg c_5, if_pos (zsge (r := p1) (w := p2) c_7), zrq0, if_pos (show zat0 p2 = 0 from if_neg c_16), zrq1, if_neg (show ¬ zat1 p1 p2 = 0 by rw [zat1, if_neg c_101, if_pos c_128]; decide), if_pos c_129]))) (trivial) hw [0] rfl (by rw [show zth p1 p2 p3 = 0 from zth_some (v := 1) (by rw [zrs, if_neg c_2, if_neg c_5, if_pos (zsge (r := p1) (w := p2) c_7), zrq0, if_pos (show zat0 p2 = 0 from if_neg c_16), zrq1, if_neg (show ¬ zat1 p1 p2 = 0 by rw [zat1, if_neg c_101, if_pos c_128]; decide), if_pos c_129])]; rfl) hS (Nat.le_of_ble_eq_true rfl) (Nat.le_of_ble_eq_true rfl) dX12_rests_125
            · refine lv_goto (tgt := 129) hx hb dX12_rests_114 (by decide) ?_
              refine lv_iinc (v := 2) (lv' := [(5, .int 2), (7, .int 1), (6, .int 0), (4, .int 0), (0, .ref h0), (1, .int p1), (2, .int p2), (3, .int p3)]) hx hb dX12_rests_129 hl (k := 2) rfl (by decide) (by decide) rfl (fun ls hl => ?_)
              refine lv_goto (tgt := 50) hx hb dX12_rests_132 (by decide) ?_
              refine lv_iload hx hb dX12_rests_50 (lv_at hl 0 rfl) ?_
              refine lv_iconst (v := 4) hx hb dX12_rests_52 (by decide) ?_
              refine lv_icmp_ge (tgt := 135) hx hb dX12_rests_53 (by decide) (fun h => absurd h (by decide)) (fun _ => ?_)
              refine lv_iload hx hb dX12_rests_56 (lv_at hl 0 rfl) ?_
              refine lv_iconst (v := 2) hx hb dX12_rests_58 (by decide) ?_
              refine lv_idiv hx hb dX12_rests_59 (by decide) ?_
              refine ztop (.int 1) (congrArg Value.int (by decide)) ?_
              refine lv_istore (lv' := [(6, .int 1), (5, .int 2), (7, .int 1), (4, .int 0), (0, .ref h0), (1, .int p1), (2, .int p2), (3, .int p3)]) hx hb dX12_rests_60 hl (by decide) rfl (fun ls hl => ?_)
              refine lv_iload hx hb dX12_rests_62 (lv_at hl 1 rfl) ?_
              refine lv_iconst (v := 2) hx hb dX12_rests_64 (by decide) ?_
              refine lv_irem hx hb dX12_rests_65 (by decide) ?_
              refine ztop (.int 0) (congrArg Value.int (by decide)) ?_
              refine lv_istore (lv' := [(7, .int 0), (6, .int 1), (5, .int 2), (4, .int 0), (0, .ref h0), (1, .int p1), (2, .int p2), (3, .int p3)]) hx hb dX12_rests_66 hl (by decide) rfl (fun ls hl => ?_)
              refine lv_iload_n hx hb dX12_rests_68 rfl (lv_at hl 5 rfl) ?_
              refine lv_iload_n hx hb dX12_rests_69 rfl (lv_at hl 6 rfl) ?_
              refine lv_iconst (v := 1) hx hb dX12_rests_70 (by decide) ?_
              refine lv_iload hx hb dX12_rests_71 (lv_at hl 1 rfl) ?_
              refine lv_isub hx hb dX12_rests_73 ?_
              refine ztop (.int 0) (congrArg Value.int (by decide)) ?_
              refine lv_iload hx hb dX12_rests_74 (lv_at hl 0 rfl) ?_
              refine scall0 (As := [.int p1, .int p2, .int 0, .int 0]) (rest := []) ⟨hx, hb, hml, hown, hts⟩ (c_mg00 l D ct p1 p2) (va_cwS 4 hts gX12_rests_X12_guardGets rfl rfl rfl (by decide +kernel) ⟨Nat.le_of_ble_eq_true rfl, Nat.le_of_ble_eq_true rfl⟩) hw hS hA hK hN rfl rfl hl.1 rfl (Nat.le_of_ble_eq_true rfl) dX12_rests_76 (fun _ H locs hp155 hw hS => ?_)
              have hw : zPD D A [(h0, .inr (11, [.int 0, .int w_taped, .ref (y 0), .int w_size, .int w_place, .int w_begin, .int w_token, .long w_word, .int w_told, .int w_wrong, .ref (y 1), .ref (y 2), .ref (y 3), .ref (y 4), .ref (y 5), .ref (y 6), .ref (y 7), .ref (y 8), .ref (y 9), .ref (y 10), .ref (y 11), .ref (y 12), .int w_code, .int w_toldLines, .ref (y 13), .ref (y 14), .ref (y 15), .ref (y 16), .ref (y 17), .ref (y 18), .ref (y 19), .ref (y 20), .ref (y 21), .ref (y 22), .ref (y 23), .ref (y 24), .int w_given, .long w_fresh, .ref (y 25), .ref (y 26), .ref (y 27), .ref (y 28), .ref (y 29), .ref (y 30), .ref (y 31), .ref (y 32), .ref (y 33), .ref (y 34), .ref (y 35), .ref (y 36), .ref (y 37), .int w_done, .int w_moreAsked, .ref (y 38), .long w_g, .int w_gone, .int w_stopped]))] H := hw
              refine zfr 79 [.int 0] rfl rfl ?_
              refine lv_iload_n hx hb dX12_rests_79 rfl (lv_at hl 5 rfl) ?_
              refine lv_iload_n hx hb dX12_rests_80 rfl (lv_at hl 6 rfl) ?_
              refine lv_iload hx hb dX12_rests_81 (lv_at hl 1 rfl) ?_
              refine lv_iload hx hb dX12_rests_83 (lv_at hl 0 rfl) ?_
              refine scall0 (As := [.int p1, .int p2, .int 1, .int 0]) (rest := [.int 0]) ⟨hx, hb, hml, hown, hts⟩ (c_mg10 l D ct p1 p2) (va_cwS 4 hts gX12_rests_X12_guardGets rfl rfl rfl (by decide +kernel) ⟨Nat.le_of_ble_eq_true rfl, Nat.le_of_ble_eq_true rfl⟩) hw hS hA hK hN rfl rfl hl.1 rfl (Nat.le_of_ble_eq_true rfl) dX12_rests_85 (fun _ H locs hp156 hw hS => ?_)
              have hw : zPD D A [(h0, .inr (11, [.int 0, .int w_taped, .ref (y 0), .int w_size, .int w_place, .int w_begin, .int w_token, .long w_word, .int w_told, .int w_wrong, .ref (y 1), .ref (y 2), .ref (y 3), .ref (y 4), .ref (y 5), .ref (y 6), .ref (y 7), .ref (y 8), .ref (y 9), .ref (y 10), .ref (y 11), .ref (y 12), .int w_code, .int w_toldLines, .ref (y 13), .ref (y 14), .ref (y 15), .ref (y 16), .ref (y 17), .ref (y 18), .ref (y 19), .ref (y 20), .ref (y 21), .ref (y 22), .ref (y 23), .ref (y 24), .int w_given, .long w_fresh, .ref (y 25), .ref (y 26), .ref (y 27), .ref (y 28), .ref (y 29), .ref (y 30), .ref (y 31), .ref (y 32), .ref (y 33), .ref (y 34), .ref (y 35), .ref (y 36), .ref (y 37), .int w_done, .int w_moreAsked, .ref (y 38), .long w_g, .int w_gone, .int w_stopped]))] H := hw
              refine zfr 88 [.int (-1), .int 0] rfl rfl ?_
              refine lv_icmp_gt (tgt := 129) hx hb dX12_rests_88 (by decide) (fun _ => ?_) (fun h => absurd (by decide) h)
              refine lv_iinc (v := 3) (lv' := [(5, .int 3), (7, .int 0), (6, .int 1), (4, .int 0), (0, .ref h0), (1, .int p1), (2, .int p2), (3, .int p3)]) hx hb dX12_rests_129 hl (k := 2) rfl (by decide) (by decide) rfl (fun ls hl => ?_)
              refine lv_goto (tgt := 50) hx hb dX12_rests_132 (by decide) ?_
              refine lv_iload hx hb dX12_rests_50 (lv_at hl 0 rfl) ?_
              refine lv_iconst (v := 4) hx hb dX12_rests_52 (by decide) ?_
              refine lv_icmp_ge (tgt := 135) hx hb dX12_rests_53 (by decide) (fun h => absurd h (by decide)) (fun _ => ?_)
              refine lv_iload hx hb dX12_rests_56 (lv_at hl 0 rfl) ?_
              refine lv_iconst (v := 2) hx hb dX12_rests_58 (by decide) ?_
              refine lv_idiv hx hb dX12_rests_59 (by decide) ?_
              refine ztop (.int 1) (congrArg Value.int (by decide)) ?_
              refine lv_istore (lv' := [(6, .int 1), (5, .int 3), (7, .int 0), (4, .int 0), (0, .ref h0), (1, .int p1), (2, .int p2), (3, .int p3)]) hx hb dX12_rests_60 hl (by decide) rfl (fun ls hl => ?_)
              refine lv_iload hx hb dX12_rests_62 (lv_at hl 1 rfl) ?_
              refine lv_iconst (v := 2) hx hb dX12_rests_64 (by decide) ?_
              refine lv_irem hx hb dX12_rests_65 (by decide) ?_
              refine ztop (.int 1) (congrArg Value.int (by decide)) ?_
              refine lv_istore (lv' := [(7, .int 1), (6, .int 1), (5, .int 3), (4, .int 0), (0, .ref h0), (1, .int p1), (2, .int p2), (3, .int p3)]) hx hb dX12_rests_66 hl (by decide) rfl (fun ls hl => ?_)
              refine lv_iload_n hx hb dX12_rests_68 rfl (lv_at hl 5 rfl) ?_
              refine lv_iload_n hx hb dX12_rests_69 rfl (lv_at hl 6 rfl) ?_
              refine lv_iconst (v := 1) hx hb dX12_rests_70 (by decide) ?_
              refine lv_iload hx hb dX12_rests_71 (lv_at hl 1 rfl) ?_
              refine lv_isub hx hb dX12_rests_73 ?_
              refine ztop (.int 0) (congrArg Value.int (by decide)) ?_
              refine lv_iload hx hb dX12_rests_74 (lv_at hl 0 rfl) ?_
              refine scall0 (As := [.int p1, .int p2, .int 0, .int 1]) (rest := []) ⟨hx, hb, hml, hown, hts⟩ (c_mg01 l D ct p1 p2) (va_cwS 4 hts gX12_rests_X12_guardGets rfl rfl rfl (by decide +kernel) ⟨Nat.le_of_ble_eq_true rfl, Nat.le_of_ble_eq_true rfl⟩) hw hS hA hK hN rfl rfl hl.1 rfl (Nat.le_of_ble_eq_true rfl) dX12_rests_76 (fun _ H locs hp159 hw hS => ?_)
              have hw : zPD D A [(h0, .inr (11, [.int 0, .int w_taped, .ref (y 0), .int w_size, .int w_place, .int w_begin, .int w_token, .long w_word, .int w_told, .int w_wrong, .ref (y 1), .ref (y 2), .ref (y 3), .ref (y 4), .ref (y 5), .ref (y 6), .ref (y 7), .ref (y 8), .ref (y 9), .ref (y 10), .ref (y 11), .ref (y 12), .int w_code, .int w_toldLines, .ref (y 13), .ref (y 14), .ref (y 15), .ref (y 16), .ref (y 17), .ref (y 18), .ref (y 19), .ref (y 20), .ref (y 21), .ref (y 22), .ref (y 23), .ref (y 24), .int w_given, .long w_fresh, .ref (y 25), .ref (y 26), .ref (y 27), .ref (y 28), .ref (y 29), .ref (y 30), .ref (y 31), .ref (y 32), .ref (y 33), .ref (y 34), .ref (y 35), .ref (y 36), .ref (y 37), .int w_done, .int w_moreAsked, .ref (y 38), .long w_g, .int w_gone, .int w_stopped]))] H := hw
              refine zfr 79 [.int (-p2)] rfl rfl ?_
              refine lv_iload_n hx hb dX12_rests_79 rfl (lv_at hl 5 rfl) ?_
              refine lv_iload_n hx hb dX12_rests_80 rfl (lv_at hl 6 rfl) ?_
              refine lv_iload hx hb dX12_rests_81 (lv_at hl 1 rfl) ?_
              refine lv_iload hx hb dX12_rests_83 (lv_at hl 0 rfl) ?_
              refine scall0 (As := [.int p1, .int p2, .int 1, .int 1]) (rest := [.int (-p2)]) ⟨hx, hb, hml, hown, hts⟩ (c_mg11 l D ct p1 p2) (va_cwS 4 hts gX12_rests_X12_guardGets rfl rfl rfl (by decide +kernel) ⟨Nat.le_of_ble_eq_true rfl, Nat.le_of_ble_eq_true rfl⟩) hw hS hA hK hN rfl rfl hl.1 rfl (Nat.le_of_ble_eq_true rfl) dX12_rests_85 (fun _ H locs hp160 hw hS => ?_)
              have hw : zPD D A [(h0, .inr (11, [.int 0, .int w_taped, .ref (y 0), .int w_size, .int w_place, .int w_begin, .int w_token, .long w_word, .int w_told, .int w_wrong, .ref (y 1), .ref (y 2), .ref (y 3), .ref (y 4), .ref (y 5), .ref (y 6), .ref (y 7), .ref (y 8), .ref (y 9), .ref (y 10), .ref (y 11), .ref (y 12), .int w_code, .int w_toldLines, .ref (y 13), .ref (y 14), .ref (y 15), .ref (y 16), .ref (y 17), .ref (y 18), .ref (y 19), .ref (y 20), .ref (y 21), .ref (y 22), .ref (y 23), .ref (y 24), .int w_given, .long w_fresh, .ref (y 25), .ref (y 26), .ref (y 27), .ref (y 28), .ref (y 29), .ref (y 30), .ref (y 31), .ref (y 32), .ref (y 33), .ref (y 34), .ref (y 35), .ref (y 36), .ref (y 37), .int w_done, .int w_moreAsked, .ref (y 38), .long w_g, .int w_gone, .int w_stopped]))] H := hw
              refine zfr 88 [.int p1, .int (-p2)] rfl rfl ?_
              refine lv_icmp_gt (tgt := 129) hx hb dX12_rests_88 (by decide) (fun c_161 => ?_) (fun c_161 => ?_)
              · refine lv_iinc (v := 4) (lv' := [(5, .int 4), (7, .int 1), (6, .int 1), (4, .int 0), (0, .ref h0), (1, .int p1), (2, .int p2), (3, .int p3)]) hx hb dX12_rests_129 hl (k := 2) rfl (by decide) (by decide) rfl (fun ls hl => ?_)
                refine lv_goto (tgt := 50) hx hb dX12_rests_132 (by decide) ?_
                refine lv_iload hx hb dX12_rests_50 (lv_at hl 0 rfl) ?_
                refine lv_iconst (v := 4) hx hb dX12_rests_52 (by decide) ?_
                refine lv_icmp_ge (tgt := 135) hx hb dX12_rests_53 (by decide) (fun _ => ?_) (fun h => absurd (by decide) h)
                refine lv_aload_n hx hb dX12_rests_135 rfl (lv_at hl 4 rfl) ?_
                refine lv_iload_n hx hb dX12_rests_136 rfl (lv_at hl 7 rfl) ?_
                refine lv_iconst (v := (-1)) hx hb dX12_rests_137 (by decide) ?_
                refine lv_icmp_ne (tgt := 145) hx hb dX12_rests_138 (by decide) (fun c_163 => ?_) (fun c_163 => ?_)
                · refine lv_iconst (v := 1) hx hb dX12_rests_145 (by decide) ?_
                  refine zput (D := D) (ci := 11) (v := .int 1) (ty := .int) hx hb hts hiX12 tyX12 tyX12_ok nmX12 hown hK hw hS 0 rfl rfl 0 (by decide) (hts (.fieldLink RX12 129 "BeardPassModel" "thrown" "I") (by decide +kernel)) (fun _ h9 => h9) rfl (by decide +kernel) rfl rfl (Nat.le_of_ble_eq_true rfl) dX12_rests_146 [(h0, .inr (11, [.int 1, .int w_taped, .ref (y 0), .int w_size, .int w_place, .int w_begin, .int w_token, .long w_word, .int w_told, .int w_wrong, .ref (y 1), .ref (y 2), .ref (y 3), .ref (y 4), .ref (y 5), .ref (y 6), .ref (y 7), .ref (y 8), .ref (y 9), .ref (y 10), .ref (y 11), .ref (y 12), .int w_code, .int w_toldLines, .ref (y 13), .ref (y 14), .ref (y 15), .ref (y 16), .ref (y 17), .ref (y 18), .ref (y 19), .ref (y 20), .ref (y 21), .ref (y 22), .ref (y 23), .ref (y 24), .int w_given, .long w_fresh, .ref (y 25), .ref (y 26), .ref (y 27), .ref (y 28), .ref (y 29), .ref (y 30), .ref (y 31), .ref (y 32), .ref (y 33), .ref (y 34), .ref (y 35), .ref (y 36), .ref (y 37), .int w_done, .int w_moreAsked, .ref (y 38), .long w_g, .int w_gone, .int w_stopped]))] rfl (fun H locs hw hS => ?_)
                  refine lv_iload_n hx hb dX12_rests_149 rfl (lv_at hl 7 rfl) ?_
                  refine lv_iconst (v := (-1)) hx hb dX12_rests_150 (by decide) ?_
                  refine lv_icmp_ne (tgt := 159) hx hb dX12_rests_151 (by decide) (fun _ => ?_) (fun h => absurd h (c_163))
                  refine lv_iconst (v := 0) hx hb dX12_rests_159 (by decide) ?_
                  exact ziret hx hb hr (rfl) hlocks () (congrArg (fun z => some (Value.int z)) (zrv_none (by rw [zrs, if_neg c_2, if_neg c_5, if_pos (zsge (r := p1) (w := p2) c_7), zrq0, if_pos (show zat0 p2 = 0 from if_neg c_16), zrq1, if_pos (show zat1 p1 p2 = 0 from (if_neg c_101).trans (if_neg c_128)), zrq3, if_pos (show zat3 p1 p2 = 0 from if_pos c_161), zrq4, if_neg c_163]))) (trivial) hw [0] rfl (by rw [show zth p1 p2 p3 = 1 from zth_none (by rw [zrs, if_neg c_2, if_neg c_5, if_pos (zsge (r := p1) (w := p2) c_7), zrq0, if_pos (show zat0 p2 = 0 from if_neg c_16), zrq1, if_pos (show zat1 p1 p2 = 0 from (if_neg c_101).trans (if_neg c_128)), zrq3, if_pos (show zat3 p1 p2 = 0 from if_pos c_161), zrq4, if_neg c_163])]; rfl) hS (Nat.le_of_ble_eq_true rfl) (Nat.le_of_ble_eq_true rfl) dX12_rests_160
                · refine lv_iconst (v := 0) hx hb dX12_rests_141 (by decide) ?_
                  refine lv_goto (tgt := 146) hx hb dX12_rests_142 (by decide) ?_
                  refine zput (D := D) (ci := 11) (v := .int 0) (ty := .int) hx hb hts hiX12 tyX12 tyX12_ok nmX12 hown hK hw hS 0 rfl rfl 0 (by decide) (hts (.fieldLink RX12 129 "BeardPassModel" "thrown" "I") (by decide +kernel)) (fun _ h9 => h9) rfl (by decide +kernel) rfl rfl (Nat.le_of_ble_eq_true rfl) dX12_rests_146 [(h0, .inr (11, [.int 0, .int w_taped, .ref (y 0), .int w_size, .int w_place, .int w_begin, .int w_token, .long w_word, .int w_told, .int w_wrong, .ref (y 1), .ref (y 2), .ref (y 3), .ref (y 4), .ref (y 5), .ref (y 6), .ref (y 7), .ref (y 8), .ref (y 9), .ref (y 10), .ref (y 11), .ref (y 12), .int w_code, .int w_toldLines, .ref (y 13), .ref (y 14), .ref (y 15), .ref (y 16), .ref (y 17), .ref (y 18), .ref (y 19), .ref (y 20), .ref (y 21), .ref (y 22), .ref (y 23), .ref (y 24), .int w_given, .long w_fresh, .ref (y 25), .ref (y 26), .ref (y 27), .ref (y 28), .ref (y 29), .ref (y 30), .ref (y 31), .ref (y 32), .ref (y 33), .ref (y 34), .ref (y 35), .ref (y 36), .ref (y 37), .int w_done, .int w_moreAsked, .ref (y 38), .long w_g, .int w_gone, .int w_stopped]))] rfl (fun H locs hw hS => ?_)
                  refine lv_iload_n hx hb dX12_rests_149 rfl (lv_at hl 7 rfl) ?_
                  refine lv_iconst (v := (-1)) hx hb dX12_rests_150 (by decide) ?_
                  refine lv_icmp_ne (tgt := 159) hx hb dX12_rests_151 (by decide) (fun h => absurd (c_163) h) (fun _ => ?_)
                  refine lv_iload hx hb dX12_rests_154 (lv_at hl 3 rfl) ?_
                  refine lv_goto (tgt := 160) hx hb dX12_rests_156 (by decide) ?_
                  exact ziret hx hb hr (rfl) hlocks () (congrArg (fun z => some (Value.int z)) (zrv_some (by rw [zrs, if_neg c_2, if_neg c_5, if_pos (zsge (r := p1) (w := p2) c_7), zrq0, if_pos (show zat0 p2 = 0 from if_neg c_16), zrq1, if_pos (show zat1 p1 p2 = 0 from (if_neg c_101).trans (if_neg c_128)), zrq3, if_pos (show zat3 p1 p2 = 0 from if_pos c_161), zrq4, if_pos c_163]))) (trivial) hw [0] rfl (by rw [show zth p1 p2 p3 = 0 from zth_some (v := 0) (by rw [zrs, if_neg c_2, if_neg c_5, if_pos (zsge (r := p1) (w := p2) c_7), zrq0, if_pos (show zat0 p2 = 0 from if_neg c_16), zrq1, if_pos (show zat1 p1 p2 = 0 from (if_neg c_101).trans (if_neg c_128)), zrq3, if_pos (show zat3 p1 p2 = 0 from if_pos c_161), zrq4, if_pos c_163])]; rfl) hS (Nat.le_of_ble_eq_true rfl) (Nat.le_of_ble_eq_true rfl) dX12_rests_160
              · refine lv_iload_n hx hb dX12_rests_91 rfl (lv_at hl 5 rfl) ?_
                refine lv_iload_n hx hb dX12_rests_92 rfl (lv_at hl 6 rfl) ?_
                refine lv_iload hx hb dX12_rests_93 (lv_at hl 1 rfl) ?_
                refine lv_iconst (v := 1) hx hb dX12_rests_95 (by decide) ?_
                refine lv_iload hx hb dX12_rests_96 (lv_at hl 0 rfl) ?_
                refine lv_isub hx hb dX12_rests_98 ?_
                refine ztop (.int 0) (congrArg Value.int (by decide)) ?_
                refine scall0 (As := [.int p1, .int p2, .int 1, .int 0]) (rest := []) ⟨hx, hb, hml, hown, hts⟩ (c_mt10 l D ct p1 p2) (va_cwS 4 hts gX12_rests_X12_travellerGets rfl rfl rfl (by decide +kernel) ⟨Nat.le_of_ble_eq_true rfl, Nat.le_of_ble_eq_true rfl⟩) hw hS hA hK hN rfl rfl hl.1 rfl (Nat.le_of_ble_eq_true rfl) dX12_rests_99 (fun _ H locs hp166 hw hS => ?_)
                have hw : zPD D A [(h0, .inr (11, [.int 0, .int w_taped, .ref (y 0), .int w_size, .int w_place, .int w_begin, .int w_token, .long w_word, .int w_told, .int w_wrong, .ref (y 1), .ref (y 2), .ref (y 3), .ref (y 4), .ref (y 5), .ref (y 6), .ref (y 7), .ref (y 8), .ref (y 9), .ref (y 10), .ref (y 11), .ref (y 12), .int w_code, .int w_toldLines, .ref (y 13), .ref (y 14), .ref (y 15), .ref (y 16), .ref (y 17), .ref (y 18), .ref (y 19), .ref (y 20), .ref (y 21), .ref (y 22), .ref (y 23), .ref (y 24), .int w_given, .long w_fresh, .ref (y 25), .ref (y 26), .ref (y 27), .ref (y 28), .ref (y 29), .ref (y 30), .ref (y 31), .ref (y 32), .ref (y 33), .ref (y 34), .ref (y 35), .ref (y 36), .ref (y 37), .int w_done, .int w_moreAsked, .ref (y 38), .long w_g, .int w_gone, .int w_stopped]))] H := hw
                refine zfr 102 [.int 0] rfl rfl ?_
                refine lv_iload_n hx hb dX12_rests_102 rfl (lv_at hl 5 rfl) ?_
                refine lv_iload_n hx hb dX12_rests_103 rfl (lv_at hl 6 rfl) ?_
                refine lv_iload hx hb dX12_rests_104 (lv_at hl 1 rfl) ?_
                refine lv_iload hx hb dX12_rests_106 (lv_at hl 0 rfl) ?_
                refine scall0 (As := [.int p1, .int p2, .int 1, .int 1]) (rest := [.int 0]) ⟨hx, hb, hml, hown, hts⟩ (c_mt11 l D ct p1 p2) (va_cwS 4 hts gX12_rests_X12_travellerGets rfl rfl rfl (by decide +kernel) ⟨Nat.le_of_ble_eq_true rfl, Nat.le_of_ble_eq_true rfl⟩) hw hS hA hK hN rfl rfl hl.1 rfl (Nat.le_of_ble_eq_true rfl) dX12_rests_108 (fun _ H locs hp167 hw hS => ?_)
                have hw : zPD D A [(h0, .inr (11, [.int 0, .int w_taped, .ref (y 0), .int w_size, .int w_place, .int w_begin, .int w_token, .long w_word, .int w_told, .int w_wrong, .ref (y 1), .ref (y 2), .ref (y 3), .ref (y 4), .ref (y 5), .ref (y 6), .ref (y 7), .ref (y 8), .ref (y 9), .ref (y 10), .ref (y 11), .ref (y 12), .int w_code, .int w_toldLines, .ref (y 13), .ref (y 14), .ref (y 15), .ref (y 16), .ref (y 17), .ref (y 18), .ref (y 19), .ref (y 20), .ref (y 21), .ref (y 22), .ref (y 23), .ref (y 24), .int w_given, .long w_fresh, .ref (y 25), .ref (y 26), .ref (y 27), .ref (y 28), .ref (y 29), .ref (y 30), .ref (y 31), .ref (y 32), .ref (y 33), .ref (y 34), .ref (y 35), .ref (y 36), .ref (y 37), .int w_done, .int w_moreAsked, .ref (y 38), .long w_g, .int w_gone, .int w_stopped]))] H := hw
                refine zfr 111 [.int (-p1), .int 0] rfl rfl ?_
                refine lv_icmp_le (tgt := 117) hx hb dX12_rests_111 (by decide) (fun c_168 => ?_) (fun c_168 => ?_)
                · refine lv_iload hx hb dX12_rests_117 (lv_at hl 3 rfl) ?_
                  refine lv_iload_n hx hb dX12_rests_119 rfl (lv_at hl 7 rfl) ?_
                  refine lv_icmp_ne (tgt := 126) hx hb dX12_rests_120 (by decide) (fun c_169 => ?_) (fun c_169 => ?_)
                  · refine lv_iinc (v := 1) (lv' := [(4, .int 1), (7, .int 1), (6, .int 1), (5, .int 3), (0, .ref h0), (1, .int p1), (2, .int p2), (3, .int p3)]) hx hb dX12_rests_126 hl (k := 3) rfl (by decide) (by decide) rfl (fun ls hl => ?_)
                    refine lv_iinc (v := 4) (lv' := [(5, .int 4), (4, .int 1), (7, .int 1), (6, .int 1), (0, .ref h0), (1, .int p1), (2, .int p2), (3, .int p3)]) hx hb dX12_rests_129 hl (k := 3) rfl (by decide) (by decide) rfl (fun ls hl => ?_)
                    refine lv_goto (tgt := 50) hx hb dX12_rests_132 (by decide) ?_
                    refine lv_iload hx hb dX12_rests_50 (lv_at hl 0 rfl) ?_
                    refine lv_iconst (v := 4) hx hb dX12_rests_52 (by decide) ?_
                    refine lv_icmp_ge (tgt := 135) hx hb dX12_rests_53 (by decide) (fun _ => ?_) (fun h => absurd (by decide) h)
                    refine lv_aload_n hx hb dX12_rests_135 rfl (lv_at hl 4 rfl) ?_
                    refine lv_iload_n hx hb dX12_rests_136 rfl (lv_at hl 7 rfl) ?_
                    refine lv_iconst (v := (-1)) hx hb dX12_rests_137 (by decide) ?_
                    refine lv_icmp_ne (tgt := 145) hx hb dX12_rests_138 (by decide) (fun c_171 => ?_) (fun c_171 => ?_)
                    · refine lv_iconst (v := 1) hx hb dX12_rests_145 (by decide) ?_
                      refine zput (D := D) (ci := 11) (v := .int 1) (ty := .int) hx hb hts hiX12 tyX12 tyX12_ok nmX12 hown hK hw hS 0 rfl rfl 0 (by decide) (hts (.fieldLink RX12 129 "BeardPassModel" "thrown" "I") (by decide +kernel)) (fun _ h9 => h9) rfl (by decide +kernel) rfl rfl (Nat.le_of_ble_eq_true rfl) dX12_rests_146 [(h0, .inr (11, [.int 1, .int w_taped, .ref (y 0), .int w_size, .int w_place, .int w_begin, .int w_token, .long w_word, .int w_told, .int w_wrong, .ref (y 1), .ref (y 2), .ref (y 3), .ref (y 4), .ref (y 5), .ref (y 6), .ref (y 7), .ref (y 8), .ref (y 9), .ref (y 10), .ref (y 11), .ref (y 12), .int w_code, .int w_toldLines, .ref (y 13), .ref (y 14), .ref (y 15), .ref (y 16), .ref (y 17), .ref (y 18), .ref (y 19), .ref (y 20), .ref (y 21), .ref (y 22), .ref (y 23), .ref (y 24), .int w_given, .long w_fresh, .ref (y 25), .ref (y 26), .ref (y 27), .ref (y 28), .ref (y 29), .ref (y 30), .ref (y 31), .ref (y 32), .ref (y 33), .ref (y 34), .ref (y 35), .ref (y 36), .ref (y 37), .int w_done, .int w_moreAsked, .ref (y 38), .long w_g, .int w_gone, .int w_stopped]))] rfl (fun H locs hw hS => ?_)
                      refine lv_iload_n hx hb dX12_rests_149 rfl (lv_at hl 7 rfl) ?_
                      refine lv_iconst (v := (-1)) hx hb dX12_rests_150 (by decide) ?_
                      refine lv_icmp_ne (tgt := 159) hx hb dX12_rests_151 (by decide) (fun _ => ?_) (fun h => absurd h (c_171))
                      refine lv_iconst (v := 0) hx hb dX12_rests_159 (by decide) ?_
                      exact ziret hx hb hr (rfl) hlocks () (congrArg (fun z => some (Value.int z)) (zrv_none (by rw [zrs, if_neg c_2, if_neg c_5, if_pos (zsge (r := p1) (w := p2) c_7), zrq0, if_pos (show zat0 p2 = 0 from if_neg c_16), zrq1, if_pos (show zat1 p1 p2 = 0 from (if_neg c_101).trans (if_neg c_128)), zrq3, if_neg (show ¬ zat3 p1 p2 = 0 by rw [zat3, if_neg c_161, if_pos c_168]; decide), if_neg c_169, zrq4, if_neg c_171]))) (trivial) hw [0] rfl (by rw [show zth p1 p2 p3 = 1 from zth_none (by rw [zrs, if_neg c_2, if_neg c_5, if_pos (zsge (r := p1) (w := p2) c_7), zrq0, if_pos (show zat0 p2 = 0 from if_neg c_16), zrq1, if_pos (show zat1 p1 p2 = 0 from (if_neg c_101).trans (if_neg c_128)), zrq3, if_neg (show ¬ zat3 p1 p2 = 0 by rw [zat3, if_neg c_161, if_pos c_168]; decide), if_neg c_169, zrq4, if_neg c_171])]; rfl) hS (Nat.le_of_ble_eq_true rfl) (Nat.le_of_ble_eq_true rfl) dX12_rests_160
                    · refine lv_iconst (v := 0) hx hb dX12_rests_141 (by decide) ?_
                      refine lv_goto (tgt := 146) hx hb dX12_rests_142 (by decide) ?_
                      refine zput (D := D) (ci := 11) (v := .int 0) (ty := .int) hx hb hts hiX12 tyX12 tyX12_ok nmX12 hown hK hw hS 0 rfl rfl 0 (by decide) (hts (.fieldLink RX12 129 "BeardPassModel" "thrown" "I") (by decide +kernel)) (fun _ h9 => h9) rfl (by decide +kernel) rfl rfl (Nat.le_of_ble_eq_true rfl) dX12_rests_146 [(h0, .inr (11, [.int 0, .int w_taped, .ref (y 0), .int w_size, .int w_place, .int w_begin, .int w_token, .long w_word, .int w_told, .int w_wrong, .ref (y 1), .ref (y 2), .ref (y 3), .ref (y 4), .ref (y 5), .ref (y 6), .ref (y 7), .ref (y 8), .ref (y 9), .ref (y 10), .ref (y 11), .ref (y 12), .int w_code, .int w_toldLines, .ref (y 13), .ref (y 14), .ref (y 15), .ref (y 16), .ref (y 17), .ref (y 18), .ref (y 19), .ref (y 20), .ref (y 21), .ref (y 22), .ref (y 23), .ref (y 24), .int w_given, .long w_fresh, .ref (y 25), .ref (y 26), .ref (y 27), .ref (y 28), .ref (y 29), .ref (y 30), .ref (y 31), .ref (y 32), .ref (y 33), .ref (y 34), .ref (y 35), .ref (y 36), .ref (y 37), .int w_done, .int w_moreAsked, .ref (y 38), .long w_g, .int w_gone, .int w_stopped]))] rfl (fun H locs hw hS => ?_)
                      refine lv_iload_n hx hb dX12_rests_149 rfl (lv_at hl 7 rfl) ?_
                      refine lv_iconst (v := (-1)) hx hb dX12_rests_150 (by decide) ?_
                      refine lv_icmp_ne (tgt := 159) hx hb dX12_rests_151 (by decide) (fun h => absurd (c_171) h) (fun _ => ?_)
                      refine lv_iload hx hb dX12_rests_154 (lv_at hl 1 rfl) ?_
                      refine lv_goto (tgt := 160) hx hb dX12_rests_156 (by decide) ?_
                      exact ziret hx hb hr (rfl) hlocks () (congrArg (fun z => some (Value.int z)) (zrv_some (by rw [zrs, if_neg c_2, if_neg c_5, if_pos (zsge (r := p1) (w := p2) c_7), zrq0, if_pos (show zat0 p2 = 0 from if_neg c_16), zrq1, if_pos (show zat1 p1 p2 = 0 from (if_neg c_101).trans (if_neg c_128)), zrq3, if_neg (show ¬ zat3 p1 p2 = 0 by rw [zat3, if_neg c_161, if_pos c_168]; decide), if_neg c_169, zrq4, if_pos c_171]))) (trivial) hw [0] rfl (by rw [show zth p1 p2 p3 = 0 from zth_some (v := 1) (by rw [zrs, if_neg c_2, if_neg c_5, if_pos (zsge (r := p1) (w := p2) c_7), zrq0, if_pos (show zat0 p2 = 0 from if_neg c_16), zrq1, if_pos (show zat1 p1 p2 = 0 from (if_neg c_101).trans (if_neg c_128)), zrq3, if_neg (show ¬ zat3 p1 p2 = 0 by rw [zat3, if_neg c_161, if_pos c_168]; decide), if_neg c_169, zrq4, if_pos c_171])]; rfl) hS (Nat.le_of_ble_eq_true rfl) (Nat.le_of_ble_eq_true rfl) dX12_rests_160
                  · refine lv_iload hx hb dX12_rests_123 (lv_at hl 2 rfl) ?_
                    exact ziret hx hb hr (rfl) hlocks () (congrArg (fun z => some (Value.int z)) (zrv_some (by rw [zrs, if_neg c_2, if_neg c_5, if_pos (zsge (r := p1) (w := p2) c_7), zrq0, if_pos (show zat0 p2 = 0 from if_neg c_16), zrq1, if_pos (show zat1 p1 p2 = 0 from (if_neg c_101).trans (if_neg c_128)), zrq3, if_neg (show ¬ zat3 p1 p2 = 0 by rw [zat3, if_neg c_161, if_pos c_168]; decide), if_pos c_169]))) (trivial) hw [0] rfl (by rw [show zth p1 p2 p3 = 0 from zth_some (v := 3) (by rw [zrs, if_neg c_2, if_neg c_5, if_pos (zsge (r := p1) (w := p2) c_7), zrq0, if_pos (show zat0 p2 = 0 from if_neg c_16), zrq1, if_pos (show zat1 p1 p2 = 0 from (if_neg c_101).trans (if_neg c_128)), zrq3, if_neg (show ¬ zat3 p1 p2 = 0 by rw [zat3, if_neg c_161, if_pos c_168]; decide), if_pos c_169])]; rfl) hS (Nat.le_of_ble_eq_true rfl) (Nat.le_of_ble_eq_true rfl) dX12_rests_125
                · refine lv_goto (tgt := 129) hx hb dX12_rests_114 (by decide) ?_
                  refine lv_iinc (v := 4) (lv' := [(5, .int 4), (7, .int 1), (6, .int 1), (4, .int 0), (0, .ref h0), (1, .int p1), (2, .int p2), (3, .int p3)]) hx hb dX12_rests_129 hl (k := 2) rfl (by decide) (by decide) rfl (fun ls hl => ?_)
                  refine lv_goto (tgt := 50) hx hb dX12_rests_132 (by decide) ?_
                  refine lv_iload hx hb dX12_rests_50 (lv_at hl 0 rfl) ?_
                  refine lv_iconst (v := 4) hx hb dX12_rests_52 (by decide) ?_
                  refine lv_icmp_ge (tgt := 135) hx hb dX12_rests_53 (by decide) (fun _ => ?_) (fun h => absurd (by decide) h)
                  refine lv_aload_n hx hb dX12_rests_135 rfl (lv_at hl 4 rfl) ?_
                  refine lv_iload_n hx hb dX12_rests_136 rfl (lv_at hl 7 rfl) ?_
                  refine lv_iconst (v := (-1)) hx hb dX12_rests_137 (by decide) ?_
                  refine lv_icmp_ne (tgt := 145) hx hb dX12_rests_138 (by decide) (fun c_175 => ?_) (fun c_175 => ?_)
                  · refine lv_iconst (v := 1) hx hb dX12_rests_145 (by decide) ?_
                    refine zput (D := D) (ci := 11) (v := .int 1) (ty := .int) hx hb hts hiX12 tyX12 tyX12_ok nmX12 hown hK hw hS 0 rfl rfl 0 (by decide) (hts (.fieldLink RX12 129 "BeardPassModel" "thrown" "I") (by decide +kernel)) (fun _ h9 => h9) rfl (by decide +kernel) rfl rfl (Nat.le_of_ble_eq_true rfl) dX12_rests_146 [(h0, .inr (11, [.int 1, .int w_taped, .ref (y 0), .int w_size, .int w_place, .int w_begin, .int w_token, .long w_word, .int w_told, .int w_wrong, .ref (y 1), .ref (y 2), .ref (y 3), .ref (y 4), .ref (y 5), .ref (y 6), .ref (y 7), .ref (y 8), .ref (y 9), .ref (y 10), .ref (y 11), .ref (y 12), .int w_code, .int w_toldLines, .ref (y 13), .ref (y 14), .ref (y 15), .ref (y 16), .ref (y 17), .ref (y 18), .ref (y 19), .ref (y 20), .ref (y 21), .ref (y 22), .ref (y 23), .ref (y 24), .int w_given, .long w_fresh, .ref (y 25), .ref (y 26), .ref (y 27), .ref (y 28), .ref (y 29), .ref (y 30), .ref (y 31), .ref (y 32), .ref (y 33), .ref (y 34), .ref (y 35), .ref (y 36), .ref (y 37), .int w_done, .int w_moreAsked, .ref (y 38), .long w_g, .int w_gone, .int w_stopped]))] rfl (fun H locs hw hS => ?_)
                    refine lv_iload_n hx hb dX12_rests_149 rfl (lv_at hl 7 rfl) ?_
                    refine lv_iconst (v := (-1)) hx hb dX12_rests_150 (by decide) ?_
                    refine lv_icmp_ne (tgt := 159) hx hb dX12_rests_151 (by decide) (fun _ => ?_) (fun h => absurd h (c_175))
                    refine lv_iconst (v := 0) hx hb dX12_rests_159 (by decide) ?_
                    exact ziret hx hb hr (rfl) hlocks () (congrArg (fun z => some (Value.int z)) (zrv_none (by rw [zrs, if_neg c_2, if_neg c_5, if_pos (zsge (r := p1) (w := p2) c_7), zrq0, if_pos (show zat0 p2 = 0 from if_neg c_16), zrq1, if_pos (show zat1 p1 p2 = 0 from (if_neg c_101).trans (if_neg c_128)), zrq3, if_pos (show zat3 p1 p2 = 0 from (if_neg c_161).trans (if_neg c_168)), zrq4, if_neg c_175]))) (trivial) hw [0] rfl (by rw [show zth p1 p2 p3 = 1 from zth_none (by rw [zrs, if_neg c_2, if_neg c_5, if_pos (zsge (r := p1) (w := p2) c_7), zrq0, if_pos (show zat0 p2 = 0 from if_neg c_16), zrq1, if_pos (show zat1 p1 p2 = 0 from (if_neg c_101).trans (if_neg c_128)), zrq3, if_pos (show zat3 p1 p2 = 0 from (if_neg c_161).trans (if_neg c_168)), zrq4, if_neg c_175])]; rfl) hS (Nat.le_of_ble_eq_true rfl) (Nat.le_of_ble_eq_true rfl) dX12_rests_160
                  · refine lv_iconst (v := 0) hx hb dX12_rests_141 (by decide) ?_
                    refine lv_goto (tgt := 146) hx hb dX12_rests_142 (by decide) ?_
                    refine zput (D := D) (ci := 11) (v := .int 0) (ty := .int) hx hb hts hiX12 tyX12 tyX12_ok nmX12 hown hK hw hS 0 rfl rfl 0 (by decide) (hts (.fieldLink RX12 129 "BeardPassModel" "thrown" "I") (by decide +kernel)) (fun _ h9 => h9) rfl (by decide +kernel) rfl rfl (Nat.le_of_ble_eq_true rfl) dX12_rests_146 [(h0, .inr (11, [.int 0, .int w_taped, .ref (y 0), .int w_size, .int w_place, .int w_begin, .int w_token, .long w_word, .int w_told, .int w_wrong, .ref (y 1), .ref (y 2), .ref (y 3), .ref (y 4), .ref (y 5), .ref (y 6), .ref (y 7), .ref (y 8), .ref (y 9), .ref (y 10), .ref (y 11), .ref (y 12), .int w_code, .int w_toldLines, .ref (y 13), .ref (y 14), .ref (y 15), .ref (y 16), .ref (y 17), .ref (y 18), .ref (y 19), .ref (y 20), .ref (y 21), .ref (y 22), .ref (y 23), .ref (y 24), .int w_given, .long w_fresh, .ref (y 25), .ref (y 26), .ref (y 27), .ref (y 28), .ref (y 29), .ref (y 30), .ref (y 31), .ref (y 32), .ref (y 33), .ref (y 34), .ref (y 35), .ref (y 36), .ref (y 37), .int w_done, .int w_moreAsked, .ref (y 38), .long w_g, .int w_gone, .int w_stopped]))] rfl (fun H locs hw hS => ?_)
                    refine lv_iload_n hx hb dX12_rests_149 rfl (lv_at hl 7 rfl) ?_
                    refine lv_iconst (v := (-1)) hx hb dX12_rests_150 (by decide) ?_
                    refine lv_icmp_ne (tgt := 159) hx hb dX12_rests_151 (by decide) (fun h => absurd (c_175) h) (fun _ => ?_)
                    refine lv_iload hx hb dX12_rests_154 (lv_at hl 3 rfl) ?_
                    refine lv_goto (tgt := 160) hx hb dX12_rests_156 (by decide) ?_
                    exact ziret hx hb hr (rfl) hlocks () (congrArg (fun z => some (Value.int z)) (zrv_some (by rw [zrs, if_neg c_2, if_neg c_5, if_pos (zsge (r := p1) (w := p2) c_7), zrq0, if_pos (show zat0 p2 = 0 from if_neg c_16), zrq1, if_pos (show zat1 p1 p2 = 0 from (if_neg c_101).trans (if_neg c_128)), zrq3, if_pos (show zat3 p1 p2 = 0 from (if_neg c_161).trans (if_neg c_168)), zrq4, if_pos c_175]))) (trivial) hw [0] rfl (by rw [show zth p1 p2 p3 = 0 from zth_some (v := 0) (by rw [zrs, if_neg c_2, if_neg c_5, if_pos (zsge (r := p1) (w := p2) c_7), zrq0, if_pos (show zat0 p2 = 0 from if_neg c_16), zrq1, if_pos (show zat1 p1 p2 = 0 from (if_neg c_101).trans (if_neg c_128)), zrq3, if_pos (show zat3 p1 p2 = 0 from (if_neg c_161).trans (if_neg c_168)), zrq4, if_pos c_175])]; rfl) hS (Nat.le_of_ble_eq_true rfl) (Nat.le_of_ble_eq_true rfl) dX12_rests_160
/-! THE CLAIM OUT OF ONE WALK OF THE LAW'S BODY. Your part is whole_start (and what it stands on); all else here is the same for every law, but numbers. -/
noncomputable def R_law : String := "BeardPassLaw"
noncomputable def lw_P (b : Addr) (xs : List Int32) (args : Array Value) (s : State) : Prop := args = #[.ref b] ∧ s.IntsAt b xs ∧ xs.length ≤ 3584 ∧ (Jvm.Cond.and given_1 narrow_1).before args s = true
noncomputable def lw_Q (_ : Array Value) (s : State) (o : Outcome) (t : State) : Prop := o = .returned (some (.int 1)) ∧ Framed s o t [] 601024 7293034
noncomputable def lw_Z (below : List Frame) (a : Array Value) (s : State) : State → Prop := fun t => ∃ o, t.status = .running ∧ Ended t below o ∧ lw_Q a s o t
/-- the law's own end, with 1 on the stack, nothing written that was there before, its room as the claim has it -/
theorem lw_ret {p : Program} {l : Launch} {e : Env} {s : State} {m : MethodId} {below : List Frame} {meth : Method} {c : Code} {b : Nat} (hx : p.tables.exec = Jvm.exec) (hb : c.code = code) (hr : meth.sig.returnType = ret) (hlocks : meth.locks = false) {pc : Nat} {H : Heap} {ls : Array Slot} (hdg : decode code pc = .ok (.ireturn, 1)) : W p l e room_1 s m #[Value.ref b] below meth c H [] 601024 7293034 (lw_Z below #[Value.ref b] s) (F0 m pc ls [.int 1]) := by
  intro T hT X
  obtain ⟨fs, hret, hrun, hended, hW, hframe⟩ := X.leave (v := some (.int 1)) (hlocks := hlocks) (fun h => by rw [hr] at h; cases h)
  have hmeth' : T.vm.method? m = some meth := X.method'
  refine ⟨T.setFrames fs, ?_, .returned (some (.int 1)), hrun, hended, rfl, ⟨_, rfl⟩, hW, hframe⟩
  jvm_step X.here [X.here.top, hx, hb, hdg, hmeth', hr, ret, narrow_b1]
  (try refine ⟨rfl, ?_⟩); (try refine ⟨rfl, ?_⟩)
  first | (intro acts; rw [hret _ acts rfl rfl rfl]) | rw [hret _ _ rfl rfl rfl]
  exact Steps.refl _
/-- what holds at the law's entry: the machine, the code, the tables' words (any of lw_tbl by 'hts w (by decide +kernel)'), the script of L ints xs at the cell b, what the Statement gives of the start (any of its parts by flat_of_before) -/
noncomputable def lw_At (p : Program) (s : State) (m : MethodId) (meth : Method) (c : Code) (b L : Nat) (xs : Nat → Int32) : Prop :=
  p.tables.exec = Jvm.exec ∧ c.code = code ∧ meth.sig.returnType = ret ∧ c.maxLocals = 7 ∧ s.vm.findClass R_law = some m.cls ∧ (∀ w ∈ lw_tbl, w.before #[Value.ref b] s = true) ∧ va_X b L xs s s.heap ∧ b < s.heap.size ∧ meth.locks = false ∧ (Jvm.Cond.and given_1 narrow_1).before #[Value.ref b] s = true
