theorem fs_ex : ∀ i, i < 34 → Cond.exactly (sTm i) "java/lang/String" ∈ flatC gnC := by
  intro i hi
  match i, hi with
  | 0, _ => exact fl_at 37 sx_0.1
  | 1, _ => exact fl_at 45 sx_1.1
  | 2, _ => exact fl_at 54 sx_2.1
  | 3, _ => exact fl_at 61 sx_3.1
  | 4, _ => exact fl_at 70 sx_4.1
  | 5, _ => exact fl_at 79 sx_5.1
  | 6, _ => exact fl_at 89 sx_6.1
  | 7, _ => exact fl_at 98 sx_7.1
  | 8, _ => exact fl_at 108 sx_8.1
  | 9, _ => exact fl_at 115 sx_9.1
  | 10, _ => exact fl_at 122 sx_10.1
  | 11, _ => exact fl_at 133 sx_11.1
  | 12, _ => exact fl_at 143 sx_12.1
  | 13, _ => exact fl_at 149 sx_13.1
  | 14, _ => exact fl_at 156 sx_14.1
  | 15, _ => exact fl_at 165 sx_15.1
  | 16, _ => exact fl_at 173 sx_16.1
  | 17, _ => exact fl_at 183 sx_17.1
  | 18, _ => exact fl_at 192 sx_18.1
  | 19, _ => exact fl_at 202 sx_19.1
  | 20, _ => exact fl_at 210 sx_20.1
  | 21, _ => exact fl_at 220 sx_21.1
  | 22, _ => exact fl_at 230 sx_22.1
  | 23, _ => exact fl_at 241 sx_23.1
  | 24, _ => exact fl_at 251 sx_24.1
  | 25, _ => exact fl_at 262 sx_25.1
  | 26, _ => exact fl_at 270 sx_26.1
  | 27, _ => exact fl_at 278 sx_27.1
  | 28, _ => exact fl_at 290 sx_28.1
  | 29, _ => exact fl_at 301 sx_29.1
  | 30, _ => exact fl_at 308 sx_30.1
  | 31, _ => exact fl_at 316 sx_31.1
  | 32, _ => exact fl_at 326 sx_32.1
  | 33, _ => exact fl_at 335 sx_33.1
  | i + 34, h => exact absurd h (by omega)
theorem fs_co : ∀ i, i < 34 → Cond.eq (.field (sTm i) "java/lang/String" "coder" "B") (.int 0) ∈ flatC gnC := by
  intro i hi
  match i, hi with
  | 0, _ => exact fl_at 38 sx_0.2.1
  | 1, _ => exact fl_at 46 sx_1.2.1
  | 2, _ => exact fl_at 55 sx_2.2.1
  | 3, _ => exact fl_at 62 sx_3.2.1
  | 4, _ => exact fl_at 71 sx_4.2.1
  | 5, _ => exact fl_at 80 sx_5.2.1
  | 6, _ => exact fl_at 90 sx_6.2.1
  | 7, _ => exact fl_at 99 sx_7.2.1
  | 8, _ => exact fl_at 109 sx_8.2.1
  | 9, _ => exact fl_at 116 sx_9.2.1
  | 10, _ => exact fl_at 123 sx_10.2.1
  | 11, _ => exact fl_at 134 sx_11.2.1
  | 12, _ => exact fl_at 144 sx_12.2.1
  | 13, _ => exact fl_at 150 sx_13.2.1
  | 14, _ => exact fl_at 157 sx_14.2.1
  | 15, _ => exact fl_at 166 sx_15.2.1
  | 16, _ => exact fl_at 174 sx_16.2.1
  | 17, _ => exact fl_at 184 sx_17.2.1
  | 18, _ => exact fl_at 193 sx_18.2.1
  | 19, _ => exact fl_at 203 sx_19.2.1
  | 20, _ => exact fl_at 211 sx_20.2.1
  | 21, _ => exact fl_at 221 sx_21.2.1
  | 22, _ => exact fl_at 231 sx_22.2.1
  | 23, _ => exact fl_at 242 sx_23.2.1
  | 24, _ => exact fl_at 252 sx_24.2.1
  | 25, _ => exact fl_at 263 sx_25.2.1
  | 26, _ => exact fl_at 271 sx_26.2.1
  | 27, _ => exact fl_at 279 sx_27.2.1
  | 28, _ => exact fl_at 291 sx_28.2.1
  | 29, _ => exact fl_at 302 sx_29.2.1
  | 30, _ => exact fl_at 309 sx_30.2.1
  | 31, _ => exact fl_at 317 sx_31.2.1
  | 32, _ => exact fl_at 327 sx_32.2.1
  | 33, _ => exact fl_at 336 sx_33.2.1
  | i + 34, h => exact absurd h (by omega)
theorem fs_ar : ∀ i, i < 34 → Cond.arrayOf (.field (sTm i) "java/lang/String" "value" "[B") .byte ∈ flatC gnC := by
  intro i hi
  match i, hi with
  | 0, _ => exact fl_at 39 sx_0.2.2.1
  | 1, _ => exact fl_at 47 sx_1.2.2.1
  | 2, _ => exact fl_at 56 sx_2.2.2.1
  | 3, _ => exact fl_at 63 sx_3.2.2.1
  | 4, _ => exact fl_at 72 sx_4.2.2.1
  | 5, _ => exact fl_at 81 sx_5.2.2.1
  | 6, _ => exact fl_at 91 sx_6.2.2.1
  | 7, _ => exact fl_at 100 sx_7.2.2.1
  | 8, _ => exact fl_at 110 sx_8.2.2.1
  | 9, _ => exact fl_at 117 sx_9.2.2.1
  | 10, _ => exact fl_at 124 sx_10.2.2.1
  | 11, _ => exact fl_at 135 sx_11.2.2.1
  | 12, _ => exact fl_at 145 sx_12.2.2.1
  | 13, _ => exact fl_at 151 sx_13.2.2.1
  | 14, _ => exact fl_at 158 sx_14.2.2.1
  | 15, _ => exact fl_at 167 sx_15.2.2.1
  | 16, _ => exact fl_at 175 sx_16.2.2.1
  | 17, _ => exact fl_at 185 sx_17.2.2.1
  | 18, _ => exact fl_at 194 sx_18.2.2.1
  | 19, _ => exact fl_at 204 sx_19.2.2.1
  | 20, _ => exact fl_at 212 sx_20.2.2.1
  | 21, _ => exact fl_at 222 sx_21.2.2.1
  | 22, _ => exact fl_at 232 sx_22.2.2.1
  | 23, _ => exact fl_at 243 sx_23.2.2.1
  | 24, _ => exact fl_at 253 sx_24.2.2.1
  | 25, _ => exact fl_at 264 sx_25.2.2.1
  | 26, _ => exact fl_at 272 sx_26.2.2.1
  | 27, _ => exact fl_at 280 sx_27.2.2.1
  | 28, _ => exact fl_at 292 sx_28.2.2.1
  | 29, _ => exact fl_at 303 sx_29.2.2.1
  | 30, _ => exact fl_at 310 sx_30.2.2.1
  | 31, _ => exact fl_at 318 sx_31.2.2.1
  | 32, _ => exact fl_at 328 sx_32.2.2.1
  | 33, _ => exact fl_at 337 sx_33.2.2.1
  | i + 34, h => exact absurd h (by omega)
theorem fs_le : ∀ i, i < 34 → Cond.eq (.length (.field (sTm i) "java/lang/String" "value" "[B")) (.int (Int32.ofNat (jByt.getD i []).length)) ∈ flatC gnC := by
  intro i hi
  match i, hi with
  | 0, _ => exact fl_at 40 sx_0.2.2.2.1
  | 1, _ => exact fl_at 48 sx_1.2.2.2.1
  | 2, _ => exact fl_at 57 sx_2.2.2.2.1
  | 3, _ => exact fl_at 64 sx_3.2.2.2.1
  | 4, _ => exact fl_at 73 sx_4.2.2.2.1
  | 5, _ => exact fl_at 82 sx_5.2.2.2.1
  | 6, _ => exact fl_at 92 sx_6.2.2.2.1
  | 7, _ => exact fl_at 101 sx_7.2.2.2.1
  | 8, _ => exact fl_at 111 sx_8.2.2.2.1
  | 9, _ => exact fl_at 118 sx_9.2.2.2.1
  | 10, _ => exact fl_at 125 sx_10.2.2.2.1
  | 11, _ => exact fl_at 136 sx_11.2.2.2.1
  | 12, _ => exact fl_at 146 sx_12.2.2.2.1
  | 13, _ => exact fl_at 152 sx_13.2.2.2.1
  | 14, _ => exact fl_at 159 sx_14.2.2.2.1
  | 15, _ => exact fl_at 168 sx_15.2.2.2.1
  | 16, _ => exact fl_at 176 sx_16.2.2.2.1
  | 17, _ => exact fl_at 186 sx_17.2.2.2.1
  | 18, _ => exact fl_at 195 sx_18.2.2.2.1
  | 19, _ => exact fl_at 205 sx_19.2.2.2.1
  | 20, _ => exact fl_at 213 sx_20.2.2.2.1
  | 21, _ => exact fl_at 223 sx_21.2.2.2.1
  | 22, _ => exact fl_at 233 sx_22.2.2.2.1
  | 23, _ => exact fl_at 244 sx_23.2.2.2.1
  | 24, _ => exact fl_at 254 sx_24.2.2.2.1
  | 25, _ => exact fl_at 265 sx_25.2.2.2.1
  | 26, _ => exact fl_at 273 sx_26.2.2.2.1
  | 27, _ => exact fl_at 281 sx_27.2.2.2.1
  | 28, _ => exact fl_at 293 sx_28.2.2.2.1
  | 29, _ => exact fl_at 304 sx_29.2.2.2.1
  | 30, _ => exact fl_at 311 sx_30.2.2.2.1
  | 31, _ => exact fl_at 319 sx_31.2.2.2.1
  | 32, _ => exact fl_at 329 sx_32.2.2.2.1
  | 33, _ => exact fl_at 338 sx_33.2.2.2.1
  | i + 34, h => exact absurd h (by omega)
theorem fs_el : ∀ i, i < 34 → ∀ j, j < (jByt.getD i []).length → Cond.eq (.elem (.field (sTm i) "java/lang/String" "value" "[B") (.int (Int32.ofNat j))) (.int ((jByt.getD i []).getD j 0)) ∈ flatC gnC := by
  intro i hi j hj
  match i, hi with
  | 0, _ => match j, hj with
    | 0, _ => exact fl_at 41 sx_0.2.2.2.2.1
    | 1, _ => exact fl_at 42 sx_0.2.2.2.2.2.1
    | 2, _ => exact fl_at 43 sx_0.2.2.2.2.2.2.1
    | 3, _ => exact fl_at 44 sx_0.2.2.2.2.2.2.2
    | j + 4, h => exact absurd h (by show ¬ j + 4 < 4; omega)
  | 1, _ => match j, hj with
    | 0, _ => exact fl_at 49 sx_1.2.2.2.2.1
    | 1, _ => exact fl_at 50 sx_1.2.2.2.2.2.1
    | 2, _ => exact fl_at 51 sx_1.2.2.2.2.2.2.1
    | 3, _ => exact fl_at 52 sx_1.2.2.2.2.2.2.2.1
    | 4, _ => exact fl_at 53 sx_1.2.2.2.2.2.2.2.2
    | j + 5, h => exact absurd h (by show ¬ j + 5 < 5; omega)
  | 2, _ => match j, hj with
    | 0, _ => exact fl_at 58 sx_2.2.2.2.2.1
    | 1, _ => exact fl_at 59 sx_2.2.2.2.2.2.1
    | 2, _ => exact fl_at 60 sx_2.2.2.2.2.2.2
    | j + 3, h => exact absurd h (by show ¬ j + 3 < 3; omega)
  | 3, _ => match j, hj with
    | 0, _ => exact fl_at 65 sx_3.2.2.2.2.1
    | 1, _ => exact fl_at 66 sx_3.2.2.2.2.2.1
    | 2, _ => exact fl_at 67 sx_3.2.2.2.2.2.2.1
    | 3, _ => exact fl_at 68 sx_3.2.2.2.2.2.2.2.1
    | 4, _ => exact fl_at 69 sx_3.2.2.2.2.2.2.2.2
    | j + 5, h => exact absurd h (by show ¬ j + 5 < 5; omega)
  | 4, _ => match j, hj with
    | 0, _ => exact fl_at 74 sx_4.2.2.2.2.1
    | 1, _ => exact fl_at 75 sx_4.2.2.2.2.2.1
    | 2, _ => exact fl_at 76 sx_4.2.2.2.2.2.2.1
    | 3, _ => exact fl_at 77 sx_4.2.2.2.2.2.2.2.1
    | 4, _ => exact fl_at 78 sx_4.2.2.2.2.2.2.2.2
    | j + 5, h => exact absurd h (by show ¬ j + 5 < 5; omega)
  | 5, _ => match j, hj with
    | 0, _ => exact fl_at 83 sx_5.2.2.2.2.1
    | 1, _ => exact fl_at 84 sx_5.2.2.2.2.2.1
    | 2, _ => exact fl_at 85 sx_5.2.2.2.2.2.2.1
    | 3, _ => exact fl_at 86 sx_5.2.2.2.2.2.2.2.1
    | 4, _ => exact fl_at 87 sx_5.2.2.2.2.2.2.2.2.1
    | 5, _ => exact fl_at 88 sx_5.2.2.2.2.2.2.2.2.2
    | j + 6, h => exact absurd h (by show ¬ j + 6 < 6; omega)
  | 6, _ => match j, hj with
    | 0, _ => exact fl_at 93 sx_6.2.2.2.2.1
    | 1, _ => exact fl_at 94 sx_6.2.2.2.2.2.1
    | 2, _ => exact fl_at 95 sx_6.2.2.2.2.2.2.1
    | 3, _ => exact fl_at 96 sx_6.2.2.2.2.2.2.2.1
    | 4, _ => exact fl_at 97 sx_6.2.2.2.2.2.2.2.2
    | j + 5, h => exact absurd h (by show ¬ j + 5 < 5; omega)
  | 7, _ => match j, hj with
    | 0, _ => exact fl_at 102 sx_7.2.2.2.2.1
    | 1, _ => exact fl_at 103 sx_7.2.2.2.2.2.1
    | 2, _ => exact fl_at 104 sx_7.2.2.2.2.2.2.1
    | 3, _ => exact fl_at 105 sx_7.2.2.2.2.2.2.2.1
    | 4, _ => exact fl_at 106 sx_7.2.2.2.2.2.2.2.2.1
    | 5, _ => exact fl_at 107 sx_7.2.2.2.2.2.2.2.2.2
    | j + 6, h => exact absurd h (by show ¬ j + 6 < 6; omega)
  | 8, _ => match j, hj with
    | 0, _ => exact fl_at 112 sx_8.2.2.2.2.1
    | 1, _ => exact fl_at 113 sx_8.2.2.2.2.2.1
    | 2, _ => exact fl_at 114 sx_8.2.2.2.2.2.2
    | j + 3, h => exact absurd h (by show ¬ j + 3 < 3; omega)
  | 9, _ => match j, hj with
    | 0, _ => exact fl_at 119 sx_9.2.2.2.2.1
    | 1, _ => exact fl_at 120 sx_9.2.2.2.2.2.1
    | 2, _ => exact fl_at 121 sx_9.2.2.2.2.2.2
    | j + 3, h => exact absurd h (by show ¬ j + 3 < 3; omega)
  | 10, _ => match j, hj with
    | 0, _ => exact fl_at 126 sx_10.2.2.2.2.1
    | 1, _ => exact fl_at 127 sx_10.2.2.2.2.2.1
    | 2, _ => exact fl_at 128 sx_10.2.2.2.2.2.2.1
    | 3, _ => exact fl_at 129 sx_10.2.2.2.2.2.2.2.1
    | 4, _ => exact fl_at 130 sx_10.2.2.2.2.2.2.2.2.1
    | 5, _ => exact fl_at 131 sx_10.2.2.2.2.2.2.2.2.2.1
    | 6, _ => exact fl_at 132 sx_10.2.2.2.2.2.2.2.2.2.2
    | j + 7, h => exact absurd h (by show ¬ j + 7 < 7; omega)
  | 11, _ => match j, hj with
    | 0, _ => exact fl_at 137 sx_11.2.2.2.2.1
    | 1, _ => exact fl_at 138 sx_11.2.2.2.2.2.1
    | 2, _ => exact fl_at 139 sx_11.2.2.2.2.2.2.1
    | 3, _ => exact fl_at 140 sx_11.2.2.2.2.2.2.2.1
    | 4, _ => exact fl_at 141 sx_11.2.2.2.2.2.2.2.2.1
    | 5, _ => exact fl_at 142 sx_11.2.2.2.2.2.2.2.2.2
    | j + 6, h => exact absurd h (by show ¬ j + 6 < 6; omega)
  | 12, _ => match j, hj with
    | 0, _ => exact fl_at 147 sx_12.2.2.2.2.1
    | 1, _ => exact fl_at 148 sx_12.2.2.2.2.2
    | j + 2, h => exact absurd h (by show ¬ j + 2 < 2; omega)
  | 13, _ => match j, hj with
    | 0, _ => exact fl_at 153 sx_13.2.2.2.2.1
    | 1, _ => exact fl_at 154 sx_13.2.2.2.2.2.1
    | 2, _ => exact fl_at 155 sx_13.2.2.2.2.2.2
    | j + 3, h => exact absurd h (by show ¬ j + 3 < 3; omega)
  | 14, _ => match j, hj with
    | 0, _ => exact fl_at 160 sx_14.2.2.2.2.1
    | 1, _ => exact fl_at 161 sx_14.2.2.2.2.2.1
    | 2, _ => exact fl_at 162 sx_14.2.2.2.2.2.2.1
    | 3, _ => exact fl_at 163 sx_14.2.2.2.2.2.2.2.1
    | 4, _ => exact fl_at 164 sx_14.2.2.2.2.2.2.2.2
    | j + 5, h => exact absurd h (by show ¬ j + 5 < 5; omega)
  | 15, _ => match j, hj with
    | 0, _ => exact fl_at 169 sx_15.2.2.2.2.1
    | 1, _ => exact fl_at 170 sx_15.2.2.2.2.2.1
    | 2, _ => exact fl_at 171 sx_15.2.2.2.2.2.2.1
    | 3, _ => exact fl_at 172 sx_15.2.2.2.2.2.2.2
    | j + 4, h => exact absurd h (by show ¬ j + 4 < 4; omega)
  | 16, _ => match j, hj with
    | 0, _ => exact fl_at 177 sx_16.2.2.2.2.1
    | 1, _ => exact fl_at 178 sx_16.2.2.2.2.2.1
    | 2, _ => exact fl_at 179 sx_16.2.2.2.2.2.2.1
    | 3, _ => exact fl_at 180 sx_16.2.2.2.2.2.2.2.1
    | 4, _ => exact fl_at 181 sx_16.2.2.2.2.2.2.2.2.1
    | 5, _ => exact fl_at 182 sx_16.2.2.2.2.2.2.2.2.2
    | j + 6, h => exact absurd h (by show ¬ j + 6 < 6; omega)
  | 17, _ => match j, hj with
    | 0, _ => exact fl_at 187 sx_17.2.2.2.2.1
    | 1, _ => exact fl_at 188 sx_17.2.2.2.2.2.1
    | 2, _ => exact fl_at 189 sx_17.2.2.2.2.2.2.1
    | 3, _ => exact fl_at 190 sx_17.2.2.2.2.2.2.2
    | j + 4, h => exact absurd h (by show ¬ j + 4 < 4; omega)
  | 18, _ => match j, hj with
    | 0, _ => exact fl_at 196 sx_18.2.2.2.2.1
    | 1, _ => exact fl_at 197 sx_18.2.2.2.2.2.1
    | 2, _ => exact fl_at 198 sx_18.2.2.2.2.2.2.1
    | 3, _ => exact fl_at 199 sx_18.2.2.2.2.2.2.2.1
    | 4, _ => exact fl_at 200 sx_18.2.2.2.2.2.2.2.2
    | j + 5, h => exact absurd h (by show ¬ j + 5 < 5; omega)
  | 19, _ => match j, hj with
    | 0, _ => exact fl_at 206 sx_19.2.2.2.2.1
    | 1, _ => exact fl_at 207 sx_19.2.2.2.2.2.1
    | 2, _ => exact fl_at 208 sx_19.2.2.2.2.2.2
    | j + 3, h => exact absurd h (by show ¬ j + 3 < 3; omega)
  | 20, _ => match j, hj with
    | 0, _ => exact fl_at 214 sx_20.2.2.2.2.1
    | 1, _ => exact fl_at 215 sx_20.2.2.2.2.2.1
    | 2, _ => exact fl_at 216 sx_20.2.2.2.2.2.2.1
    | 3, _ => exact fl_at 217 sx_20.2.2.2.2.2.2.2.1
    | 4, _ => exact fl_at 218 sx_20.2.2.2.2.2.2.2.2
    | j + 5, h => exact absurd h (by show ¬ j + 5 < 5; omega)
  | 21, _ => match j, hj with
    | 0, _ => exact fl_at 224 sx_21.2.2.2.2.1
    | 1, _ => exact fl_at 225 sx_21.2.2.2.2.2.1
    | 2, _ => exact fl_at 226 sx_21.2.2.2.2.2.2.1
    | 3, _ => exact fl_at 227 sx_21.2.2.2.2.2.2.2.1
    | 4, _ => exact fl_at 228 sx_21.2.2.2.2.2.2.2.2
    | j + 5, h => exact absurd h (by show ¬ j + 5 < 5; omega)
  | 22, _ => match j, hj with
    | 0, _ => exact fl_at 234 sx_22.2.2.2.2.1
    | 1, _ => exact fl_at 235 sx_22.2.2.2.2.2.1
    | 2, _ => exact fl_at 236 sx_22.2.2.2.2.2.2.1
    | 3, _ => exact fl_at 237 sx_22.2.2.2.2.2.2.2.1
    | 4, _ => exact fl_at 238 sx_22.2.2.2.2.2.2.2.2.1
    | 5, _ => exact fl_at 239 sx_22.2.2.2.2.2.2.2.2.2
    | j + 6, h => exact absurd h (by show ¬ j + 6 < 6; omega)
  | 23, _ => match j, hj with
    | 0, _ => exact fl_at 245 sx_23.2.2.2.2.1
    | 1, _ => exact fl_at 246 sx_23.2.2.2.2.2.1
    | 2, _ => exact fl_at 247 sx_23.2.2.2.2.2.2.1
    | 3, _ => exact fl_at 248 sx_23.2.2.2.2.2.2.2.1
    | 4, _ => exact fl_at 249 sx_23.2.2.2.2.2.2.2.2
    | j + 5, h => exact absurd h (by show ¬ j + 5 < 5; omega)
  | 24, _ => match j, hj with
    | 0, _ => exact fl_at 255 sx_24.2.2.2.2.1
    | 1, _ => exact fl_at 256 sx_24.2.2.2.2.2.1
    | 2, _ => exact fl_at 257 sx_24.2.2.2.2.2.2.1
    | 3, _ => exact fl_at 258 sx_24.2.2.2.2.2.2.2.1
    | 4, _ => exact fl_at 259 sx_24.2.2.2.2.2.2.2.2.1
    | 5, _ => exact fl_at 260 sx_24.2.2.2.2.2.2.2.2.2
    | j + 6, h => exact absurd h (by show ¬ j + 6 < 6; omega)
  | 25, _ => match j, hj with
    | 0, _ => exact fl_at 266 sx_25.2.2.2.2.1
    | 1, _ => exact fl_at 267 sx_25.2.2.2.2.2.1
    | 2, _ => exact fl_at 268 sx_25.2.2.2.2.2.2
    | j + 3, h => exact absurd h (by show ¬ j + 3 < 3; omega)
  | 26, _ => match j, hj with
    | 0, _ => exact fl_at 274 sx_26.2.2.2.2.1
    | 1, _ => exact fl_at 275 sx_26.2.2.2.2.2.1
    | 2, _ => exact fl_at 276 sx_26.2.2.2.2.2.2
    | j + 3, h => exact absurd h (by show ¬ j + 3 < 3; omega)
  | 27, _ => match j, hj with
    | 0, _ => exact fl_at 282 sx_27.2.2.2.2.1
    | 1, _ => exact fl_at 283 sx_27.2.2.2.2.2.1
    | 2, _ => exact fl_at 284 sx_27.2.2.2.2.2.2.1
    | 3, _ => exact fl_at 285 sx_27.2.2.2.2.2.2.2.1
    | 4, _ => exact fl_at 286 sx_27.2.2.2.2.2.2.2.2.1
    | 5, _ => exact fl_at 287 sx_27.2.2.2.2.2.2.2.2.2.1
    | 6, _ => exact fl_at 288 sx_27.2.2.2.2.2.2.2.2.2.2
    | j + 7, h => exact absurd h (by show ¬ j + 7 < 7; omega)
  | 28, _ => match j, hj with
    | 0, _ => exact fl_at 294 sx_28.2.2.2.2.1
    | 1, _ => exact fl_at 295 sx_28.2.2.2.2.2.1
    | 2, _ => exact fl_at 296 sx_28.2.2.2.2.2.2.1
    | 3, _ => exact fl_at 297 sx_28.2.2.2.2.2.2.2.1
    | 4, _ => exact fl_at 298 sx_28.2.2.2.2.2.2.2.2.1
    | 5, _ => exact fl_at 299 sx_28.2.2.2.2.2.2.2.2.2
    | j + 6, h => exact absurd h (by show ¬ j + 6 < 6; omega)
  | 29, _ => match j, hj with
    | 0, _ => exact fl_at 305 sx_29.2.2.2.2.1
    | 1, _ => exact fl_at 306 sx_29.2.2.2.2.2
    | j + 2, h => exact absurd h (by show ¬ j + 2 < 2; omega)
  | 30, _ => match j, hj with
    | 0, _ => exact fl_at 312 sx_30.2.2.2.2.1
    | 1, _ => exact fl_at 313 sx_30.2.2.2.2.2.1
    | 2, _ => exact fl_at 314 sx_30.2.2.2.2.2.2
    | j + 3, h => exact absurd h (by show ¬ j + 3 < 3; omega)
  | 31, _ => match j, hj with
    | 0, _ => exact fl_at 320 sx_31.2.2.2.2.1
    | 1, _ => exact fl_at 321 sx_31.2.2.2.2.2.1
    | 2, _ => exact fl_at 322 sx_31.2.2.2.2.2.2.1
    | 3, _ => exact fl_at 323 sx_31.2.2.2.2.2.2.2.1
    | 4, _ => exact fl_at 324 sx_31.2.2.2.2.2.2.2.2
    | j + 5, h => exact absurd h (by show ¬ j + 5 < 5; omega)
  | 32, _ => match j, hj with
    | 0, _ => exact fl_at 330 sx_32.2.2.2.2.1
    | 1, _ => exact fl_at 331 sx_32.2.2.2.2.2.1
    | 2, _ => exact fl_at 332 sx_32.2.2.2.2.2.2.1
    | 3, _ => exact fl_at 333 sx_32.2.2.2.2.2.2.2
    | j + 4, h => exact absurd h (by show ¬ j + 4 < 4; omega)
  | 33, _ => match j, hj with
    | 0, _ => exact fl_at 339 sx_33.2.2.2.2.1
    | 1, _ => exact fl_at 340 sx_33.2.2.2.2.2.1
    | 2, _ => exact fl_at 341 sx_33.2.2.2.2.2.2.1
    | 3, _ => exact fl_at 342 sx_33.2.2.2.2.2.2.2.1
    | 4, _ => exact fl_at 343 sx_33.2.2.2.2.2.2.2.2.1
    | 5, _ => exact fl_at 344 sx_33.2.2.2.2.2.2.2.2.2
    | j + 6, h => exact absurd h (by show ¬ j + 6 < 6; omega)
  | i + 34, h => exact absurd h (by omega)
theorem fs_rf : ∀ i, i < 34 → Cond.stringRef (sOw i).1 (sOw i).2.1 (sOw i).2.2 ∈ lw_tbl := by
  intro i hi
  match i, hi with
  | 0, _ => exact tb_3 51 (w := .stringRef "TwoBelow$Tape" 32 "rank") (by decide +kernel)
  | 1, _ => exact tb_3 113 (w := .stringRef "TwoBelow$Tape" 85 "seats") (by decide +kernel)
  | 2, _ => exact tb_3 123 (w := .stringRef "TwoBelow$Tape" 122 "law") (by decide +kernel)
  | 3, _ => exact tb_3 124 (w := .stringRef "TwoBelow$Tape" 124 "parts") (by decide +kernel)
  | 4, _ => exact tb_3 125 (w := .stringRef "TwoBelow$Tape" 126 "price") (by decide +kernel)
  | 5, _ => exact tb_3 132 (w := .stringRef "TwoBelow$Tape" 128 "person") (by decide +kernel)
  | 6, _ => exact tb_3 133 (w := .stringRef "TwoBelow$Tape" 130 "loyal") (by decide +kernel)
  | 7, _ => exact tb_3 134 (w := .stringRef "TwoBelow$Tape" 132 "bought") (by decide +kernel)
  | 8, _ => exact tb_3 135 (w := .stringRef "TwoBelow$Tape" 134 "sly") (by decide +kernel)
  | 9, _ => exact tb_3 136 (w := .stringRef "TwoBelow$Tape" 136 "kin") (by decide +kernel)
  | 10, _ => exact tb_3 137 (w := .stringRef "TwoBelow$Tape" 138 "plotter") (by decide +kernel)
  | 11, _ => exact tb_3 138 (w := .stringRef "TwoBelow$Tape" 140 "hermit") (by decide +kernel)
  | 12, _ => exact tb_3 144 (w := .stringRef "TwoBelow$Tape" 93 "in") (by decide +kernel)
  | 13, _ => exact tb_3 147 (w := .stringRef "TwoBelow$Tape" 102 "age") (by decide +kernel)
  | 14, _ => exact tb_3 152 (w := .stringRef "TwoBelow$Tape" 110 "house") (by decide +kernel)
  | 15, _ => exact tb_3 153 (w := .stringRef "TwoBelow$Tape" 114 "gold") (by decide +kernel)
  | 16, _ => exact tb_3 154 (w := .stringRef "TwoBelow$Tape" 118 "grudge") (by decide +kernel)
  | 17, _ => exact tb_5 114 (w := .stringRef "TwoBelowModel" 273 "rank") (by decide +kernel)
  | 18, _ => exact tb_5 133 (w := .stringRef "TwoBelowModel" 271 "seats") (by decide +kernel)
  | 19, _ => exact tb_5 138 (w := .stringRef "TwoBelowModel" 278 "law") (by decide +kernel)
  | 20, _ => exact tb_5 143 (w := .stringRef "TwoBelowModel" 283 "parts") (by decide +kernel)
  | 21, _ => exact tb_5 144 (w := .stringRef "TwoBelowModel" 285 "price") (by decide +kernel)
  | 22, _ => exact tb_5 149 (w := .stringRef "TwoBelowModel" 241 "person") (by decide +kernel)
  | 23, _ => exact tb_5 150 (w := .stringRef "TwoBelowModel" 243 "loyal") (by decide +kernel)
  | 24, _ => exact tb_5 151 (w := .stringRef "TwoBelowModel" 245 "bought") (by decide +kernel)
  | 25, _ => exact tb_5 152 (w := .stringRef "TwoBelowModel" 247 "sly") (by decide +kernel)
  | 26, _ => exact tb_5 153 (w := .stringRef "TwoBelowModel" 249 "kin") (by decide +kernel)
  | 27, _ => exact tb_5 154 (w := .stringRef "TwoBelowModel" 251 "plotter") (by decide +kernel)
  | 28, _ => exact tb_5 155 (w := .stringRef "TwoBelowModel" 253 "hermit") (by decide +kernel)
  | 29, _ => exact tb_5 160 (w := .stringRef "TwoBelowModel" 255 "in") (by decide +kernel)
  | 30, _ => exact tb_5 161 (w := .stringRef "TwoBelowModel" 263 "age") (by decide +kernel)
  | 31, _ => exact tb_5 162 (w := .stringRef "TwoBelowModel" 265 "house") (by decide +kernel)
  | 32, _ => exact tb_5 163 (w := .stringRef "TwoBelowModel" 267 "gold") (by decide +kernel)
  | 33, _ => exact tb_5 164 (w := .stringRef "TwoBelowModel" 269 "grudge") (by decide +kernel)
  | i + 34, h => exact absurd h (by omega)
