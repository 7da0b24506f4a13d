/-! the words of the fields and calls, by their places in the tables -/
theorem FX0 : zw_F RX0 TX0 5 0 := ⟨rfl, fun w h => by
  obtain ⟨k, hk, rfl⟩ := List.mem_map.mp h
  have hk := List.mem_range.mp hk
  match k, hk with | 0, _ => exact (zw_in1 57 rfl rfl) | 1, _ => exact (zw_in1 59 rfl rfl) | 2, _ => exact (zw_in1 61 rfl rfl) | 3, _ => exact (zw_in1 63 rfl rfl) | 4, _ => exact (zw_in1 65 rfl rfl) | k + 5, hk => exact absurd hk (by omega)⟩
theorem GX0 : zw_FW TX0 5 tyX0 := ⟨tyX0_ok, nmX0⟩
theorem FX1 : zw_F RX1 TX1 5 1 := ⟨rfl, fun w h => by
  obtain ⟨k, hk, rfl⟩ := List.mem_map.mp h
  have hk := List.mem_range.mp hk
  match k, hk with | 0, _ => exact (zw_in1 32 rfl rfl) | 1, _ => exact (zw_in1 34 rfl rfl) | 2, _ => exact (zw_in1 36 rfl rfl) | 3, _ => exact (zw_in1 38 rfl rfl) | 4, _ => exact (zw_in1 40 rfl rfl) | k + 5, hk => exact absurd hk (by omega)⟩
theorem GX1 : zw_FW TX1 5 tyX1 := ⟨tyX1_ok, nmX1⟩
theorem FX2 : zw_F RX2 TX2 6 2 := ⟨rfl, fun w h => by
  obtain ⟨k, hk, rfl⟩ := List.mem_map.mp h
  have hk := List.mem_range.mp hk
  match k, hk with | 0, _ => exact (zw_in1 85 rfl rfl) | 1, _ => exact (zw_in1 87 rfl rfl) | 2, _ => exact (zw_in1 89 rfl rfl) | 3, _ => exact (zw_in1 91 rfl rfl) | 4, _ => exact (zw_in1 93 rfl rfl) | 5, _ => exact (zw_in1 95 rfl rfl) | k + 6, hk => exact absurd hk (by omega)⟩
theorem GX2 : zw_FW TX2 6 tyX2 := ⟨tyX2_ok, nmX2⟩
theorem FX3 : zw_F RX3 TX3 13 3 := ⟨rfl, fun w h => by
  obtain ⟨k, hk, rfl⟩ := List.mem_map.mp h
  have hk := List.mem_range.mp hk
  match k, hk with | 0, _ => exact (zw_in1 111 rfl rfl) | 1, _ => exact (zw_in1 113 rfl rfl) | 2, _ => exact (zw_in1 115 rfl rfl) | 3, _ => exact (zw_in1 117 rfl rfl) | 4, _ => exact (zw_in1 119 rfl rfl) | 5, _ => exact (zw_in1 121 rfl rfl) | 6, _ => exact (zw_in1 123 rfl rfl) | 7, _ => exact (zw_in1 125 rfl rfl) | 8, _ => exact (zw_in1 127 rfl rfl) | 9, _ => exact (zw_in1 129 rfl rfl) | 10, _ => exact (zw_in1 131 rfl rfl) | 11, _ => exact (zw_in1 133 rfl rfl) | 12, _ => exact (zw_in1 135 rfl rfl) | k + 13, hk => exact absurd hk (by omega)⟩
theorem GX3 : zw_FW TX3 13 tyX3 := ⟨tyX3_ok, nmX3⟩
theorem FX4 : zw_F RX4 TX4 36 4 := ⟨rfl, fun w h => by
  obtain ⟨k, hk, rfl⟩ := List.mem_map.mp h
  have hk := List.mem_range.mp hk
  match k, hk with | 0, _ => exact (zw_in2 148 rfl rfl) | 1, _ => exact (zw_in2 150 rfl rfl) | 2, _ => exact (zw_in2 152 rfl rfl) | 3, _ => exact (zw_in2 154 rfl rfl) | 4, _ => exact (zw_in2 156 rfl rfl) | 5, _ => exact (zw_in2 158 rfl rfl) | 6, _ => exact (zw_in2 160 rfl rfl) | 7, _ => exact (zw_in2 162 rfl rfl) | 8, _ => exact (zw_in2 164 rfl rfl) | 9, _ => exact (zw_in2 166 rfl rfl) | 10, _ => exact (zw_in2 168 rfl rfl) | 11, _ => exact (zw_in2 170 rfl rfl) | 12, _ => exact (zw_in2 172 rfl rfl) | 13, _ => exact (zw_in2 174 rfl rfl) | 14, _ => exact (zw_in2 176 rfl rfl) | 15, _ => exact (zw_in2 178 rfl rfl) | 16, _ => exact (zw_in2 180 rfl rfl) | 17, _ => exact (zw_in2 182 rfl rfl) | 18, _ => exact (zw_in2 184 rfl rfl) | 19, _ => exact (zw_in2 186 rfl rfl) | 20, _ => exact (zw_in2 188 rfl rfl) | 21, _ => exact (zw_in2 190 rfl rfl) | 22, _ => exact (zw_in2 192 rfl rfl) | 23, _ => exact (zw_in2 194 rfl rfl) | 24, _ => exact (zw_in2 196 rfl rfl) | 25, _ => exact (zw_in2 198 rfl rfl) | 26, _ => exact (zw_in2 200 rfl rfl) | 27, _ => exact (zw_in2 202 rfl rfl) | 28, _ => exact (zw_in2 204 rfl rfl) | 29, _ => exact (zw_in2 206 rfl rfl) | 30, _ => exact (zw_in2 208 rfl rfl) | 31, _ => exact (zw_in2 210 rfl rfl) | 32, _ => exact (zw_in2 212 rfl rfl) | 33, _ => exact (zw_in2 214 rfl rfl) | 34, _ => exact (zw_in2 216 rfl rfl) | 35, _ => exact (zw_in2 218 rfl rfl) | k + 36, hk => exact absurd hk (by omega)⟩
theorem GX4 : zw_FW TX4 36 tyX4 := ⟨tyX4_ok, nmX4⟩
theorem lkX0_9 : Cond.fieldLink RX0 9 (TX0 0).1 (TX0 0).2.1 (TX0 0).2.2.1 ∈ zw_tbl := (zw_in1 51 rfl rfl)
theorem lkX0_15 : Cond.fieldLink RX0 15 (TX0 1).1 (TX0 1).2.1 (TX0 1).2.2.1 ∈ zw_tbl := (zw_in1 52 rfl rfl)
theorem lkX0_19 : Cond.fieldLink RX0 19 (TX0 2).1 (TX0 2).2.1 (TX0 2).2.2.1 ∈ zw_tbl := (zw_in1 53 rfl rfl)
theorem lkX0_22 : Cond.fieldLink RX0 22 (TX0 3).1 (TX0 3).2.1 (TX0 3).2.2.1 ∈ zw_tbl := (zw_in1 54 rfl rfl)
theorem lkX0_25 : Cond.fieldLink RX0 25 (TX0 4).1 (TX0 4).2.1 (TX0 4).2.2.1 ∈ zw_tbl := (zw_in1 55 rfl rfl)
theorem lkX1_9 : Cond.fieldLink RX1 9 (TX1 0).1 (TX1 0).2.1 (TX1 0).2.2.1 ∈ zw_tbl := (zw_in1 22 rfl rfl)
theorem lkX1_13 : Cond.fieldLink RX1 13 (TX1 1).1 (TX1 1).2.1 (TX1 1).2.2.1 ∈ zw_tbl := (zw_in1 24 rfl rfl)
theorem lkX1_16 : Cond.fieldLink RX1 16 (TX1 2).1 (TX1 2).2.1 (TX1 2).2.2.1 ∈ zw_tbl := (zw_in1 26 rfl rfl)
theorem lkX1_19 : Cond.fieldLink RX1 19 (TX1 3).1 (TX1 3).2.1 (TX1 3).2.2.1 ∈ zw_tbl := (zw_in1 28 rfl rfl)
theorem lkX1_23 : Cond.fieldLink RX1 23 (TX1 4).1 (TX1 4).2.1 (TX1 4).2.2.1 ∈ zw_tbl := (zw_in1 30 rfl rfl)
theorem lkX2_9 : Cond.fieldLink RX2 9 (TX2 0).1 (TX2 0).2.1 (TX2 0).2.2.1 ∈ zw_tbl := (zw_in1 74 rfl rfl)
theorem lkX2_15 : Cond.fieldLink RX2 15 (TX2 1).1 (TX2 1).2.1 (TX2 1).2.2.1 ∈ zw_tbl := (zw_in1 76 rfl rfl)
theorem lkX2_18 : Cond.fieldLink RX2 18 (TX2 2).1 (TX2 2).2.1 (TX2 2).2.2.1 ∈ zw_tbl := (zw_in1 78 rfl rfl)
theorem lkX2_21 : Cond.fieldLink RX2 21 (TX2 3).1 (TX2 3).2.1 (TX2 3).2.2.1 ∈ zw_tbl := (zw_in1 80 rfl rfl)
theorem lkX2_24 : Cond.fieldLink RX2 24 (TX2 4).1 (TX2 4).2.1 (TX2 4).2.2.1 ∈ zw_tbl := (zw_in1 82 rfl rfl)
theorem lkX2_27 : Cond.fieldLink RX2 27 (TX2 5).1 (TX2 5).2.1 (TX2 5).2.2.1 ∈ zw_tbl := (zw_in1 84 rfl rfl)
theorem lkX3_9 : Cond.fieldLink RX3 9 (TX3 0).1 (TX3 0).2.1 (TX3 0).2.2.1 ∈ zw_tbl := (zw_in1 98 rfl rfl)
theorem lkX3_13 : Cond.fieldLink RX3 13 (TX3 1).1 (TX3 1).2.1 (TX3 1).2.2.1 ∈ zw_tbl := (zw_in1 99 rfl rfl)
theorem lkX3_17 : Cond.fieldLink RX3 17 (TX3 2).1 (TX3 2).2.1 (TX3 2).2.2.1 ∈ zw_tbl := (zw_in1 100 rfl rfl)
theorem lkX3_20 : Cond.fieldLink RX3 20 (TX3 3).1 (TX3 3).2.1 (TX3 3).2.2.1 ∈ zw_tbl := (zw_in1 101 rfl rfl)
theorem lkX3_24 : Cond.fieldLink RX3 24 (TX3 4).1 (TX3 4).2.1 (TX3 4).2.2.1 ∈ zw_tbl := (zw_in1 102 rfl rfl)
theorem lkX3_27 : Cond.fieldLink RX3 27 (TX3 5).1 (TX3 5).2.1 (TX3 5).2.2.1 ∈ zw_tbl := (zw_in1 103 rfl rfl)
theorem lkX3_33 : Cond.fieldLink RX3 33 (TX3 6).1 (TX3 6).2.1 (TX3 6).2.2.1 ∈ zw_tbl := (zw_in1 104 rfl rfl)
theorem lkX3_37 : Cond.fieldLink RX3 37 (TX3 7).1 (TX3 7).2.1 (TX3 7).2.2.1 ∈ zw_tbl := (zw_in1 105 rfl rfl)
theorem lkX3_40 : Cond.fieldLink RX3 40 (TX3 8).1 (TX3 8).2.1 (TX3 8).2.2.1 ∈ zw_tbl := (zw_in1 106 rfl rfl)
theorem lkX3_46 : Cond.fieldLink RX3 46 (TX3 9).1 (TX3 9).2.1 (TX3 9).2.2.1 ∈ zw_tbl := (zw_in1 107 rfl rfl)
theorem lkX3_50 : Cond.fieldLink RX3 50 (TX3 10).1 (TX3 10).2.1 (TX3 10).2.2.1 ∈ zw_tbl := (zw_in1 108 rfl rfl)
theorem lkX3_56 : Cond.fieldLink RX3 56 (TX3 11).1 (TX3 11).2.1 (TX3 11).2.2.1 ∈ zw_tbl := (zw_in1 109 rfl rfl)
theorem lkX3_60 : Cond.fieldLink RX3 60 (TX3 12).1 (TX3 12).2.1 (TX3 12).2.2.1 ∈ zw_tbl := (zw_in1 110 rfl rfl)
theorem lkX3_141 : Cond.fieldLink RX3 141 (TX0 4).1 (TX0 4).2.1 (TX0 4).2.2.1 ∈ zw_tbl := (zw_in1 56 rfl rfl)
theorem lkX3_147 : Cond.fieldLink RX3 147 (TX1 4).1 (TX1 4).2.1 (TX1 4).2.2.1 ∈ zw_tbl := (zw_in1 31 rfl rfl)
theorem lkX3_148 : Cond.fieldLink RX3 148 (TX2 0).1 (TX2 0).2.1 (TX2 0).2.2.1 ∈ zw_tbl := (zw_in1 75 rfl rfl)
theorem lkX3_151 : Cond.fieldLink RX3 151 (TX2 1).1 (TX2 1).2.1 (TX2 1).2.2.1 ∈ zw_tbl := (zw_in1 77 rfl rfl)
theorem lkX3_154 : Cond.fieldLink RX3 154 (TX2 2).1 (TX2 2).2.1 (TX2 2).2.2.1 ∈ zw_tbl := (zw_in1 79 rfl rfl)
theorem lkX3_157 : Cond.fieldLink RX3 157 (TX2 3).1 (TX2 3).2.1 (TX2 3).2.2.1 ∈ zw_tbl := (zw_in1 81 rfl rfl)
theorem lkX3_160 : Cond.fieldLink RX3 160 (TX2 4).1 (TX2 4).2.1 (TX2 4).2.2.1 ∈ zw_tbl := (zw_in1 83 rfl rfl)
theorem lkX3_172 : Cond.fieldLink RX3 172 (TX1 1).1 (TX1 1).2.1 (TX1 1).2.2.1 ∈ zw_tbl := (zw_in1 25 rfl rfl)
theorem lkX3_175 : Cond.fieldLink RX3 175 (TX1 2).1 (TX1 2).2.1 (TX1 2).2.2.1 ∈ zw_tbl := (zw_in1 27 rfl rfl)
theorem lkX3_178 : Cond.fieldLink RX3 178 (TX1 0).1 (TX1 0).2.1 (TX1 0).2.2.1 ∈ zw_tbl := (zw_in1 23 rfl rfl)
theorem lkX3_194 : Cond.fieldLink RX3 194 (TX1 3).1 (TX1 3).2.1 (TX1 3).2.2.1 ∈ zw_tbl := (zw_in1 29 rfl rfl)
theorem kvX0_29 : zw_KV RX0 29 RX0 yX0_placeOf cX0_placeOf 4 (some .int) 1 := ⟨(zw_in2 89 rfl rfl), ⟨(zw_in2 86 rfl rfl), (zw_in2 88 rfl rfl), (zw_inS 15 rfl rfl), (zw_in1 3 rfl rfl)⟩, ⟨rfl, by decide, by decide, by decide⟩⟩
theorem kvX2_30 : zw_KV RX2 30 RX2 yX2_hasFailure cX2_hasFailure 1 (some .boolean) 0 := ⟨(zw_in1 211 rfl rfl), ⟨(zw_in1 208 rfl rfl), (zw_in1 209 rfl rfl), (zw_in1 210 rfl rfl), (zw_in1 4 rfl rfl)⟩, ⟨rfl, by decide, by decide, by decide⟩⟩
theorem kvX2_34 : zw_KV RX2 34 RX2 yX2_fail cX2_fail 2 none 1 := ⟨(zw_in1 215 rfl rfl), ⟨(zw_in1 212 rfl rfl), (zw_in1 213 rfl rfl), (zw_in1 214 rfl rfl), (zw_in1 4 rfl rfl)⟩, ⟨rfl, by decide, by decide, by decide⟩⟩
theorem kvX3_64 : zw_KS RX3 64 yX3_cellOf cX3_cellOf 2 (some .int) 2 := ⟨(zw_in1 144 rfl rfl), ⟨(zw_in1 142 rfl rfl), (zw_in1 143 rfl rfl), (zw_in1 1 rfl rfl)⟩, ⟨rfl, by decide, by decide, by decide⟩⟩
theorem kvX3_68 : zw_KV RX3 68 RX3 yX3_isThing cX3_isThing 2 (some .boolean) 1 := ⟨(zw_in1 152 rfl rfl), ⟨(zw_in1 149 rfl rfl), (zw_in1 151 rfl rfl), (zw_inS 0 rfl rfl), (zw_in1 1 rfl rfl)⟩, ⟨rfl, by decide, by decide, by decide⟩⟩
theorem kvX3_72 : zw_KS RX3 72 yX3_isColumn cX3_isColumn 1 (some .boolean) 1 := ⟨(zw_in1 155 rfl rfl), ⟨(zw_in1 153 rfl rfl), (zw_in1 154 rfl rfl), (zw_in1 1 rfl rfl)⟩, ⟨rfl, by decide, by decide, by decide⟩⟩
theorem kvX3_75 : zw_KS RX3 75 yX3_isPlaceOfRow cX3_isPlaceOfRow 2 (some .boolean) 1 := ⟨(zw_in1 166 rfl rfl), ⟨(zw_in1 164 rfl rfl), (zw_in1 165 rfl rfl), (zw_in1 1 rfl rfl)⟩, ⟨rfl, by decide, by decide, by decide⟩⟩
theorem kvX3_79 : zw_KV RX3 79 RX3 yX3_canMakeScale cX3_canMakeScale 4 (some .boolean) 3 := ⟨(zw_in1 183 rfl rfl), ⟨(zw_in1 180 rfl rfl), (zw_in1 182 rfl rfl), (zw_inS 1 rfl rfl), (zw_in1 1 rfl rfl)⟩, ⟨rfl, by decide, by decide, by decide⟩⟩
theorem kvX3_83 : zw_KV RX3 83 RX1 yX1_isFull cX1_isFull 1 (some .boolean) 0 := ⟨(zw_in1 191 rfl rfl), ⟨(zw_in1 188 rfl rfl), (zw_in1 189 rfl rfl), (zw_in1 190 rfl rfl), (zw_in1 2 rfl rfl)⟩, ⟨rfl, by decide, by decide, by decide⟩⟩
theorem kvX3_87 : zw_KV RX3 87 RX3 yX3_makeNow cX3_makeNow 5 (some .int) 2 := ⟨(zw_in1 195 rfl rfl), ⟨(zw_in1 192 rfl rfl), (zw_in1 194 rfl rfl), (zw_inS 2 rfl rfl), (zw_in1 1 rfl rfl)⟩, ⟨rfl, by decide, by decide, by decide⟩⟩
theorem kvX3_90 : zw_KV RX3 90 RX1 yX1_make cX1_make 7 (some .int) 4 := ⟨(zw_in2 15 rfl rfl), ⟨(zw_in2 12 rfl rfl), (zw_in2 13 rfl rfl), (zw_in2 14 rfl rfl), (zw_in1 2 rfl rfl)⟩, ⟨rfl, by decide, by decide, by decide⟩⟩
theorem kvX3_94 : zw_KV RX3 94 RX3 yX3_canMakeSieve cX3_canMakeSieve 4 (some .boolean) 3 := ⟨(zw_in2 23 rfl rfl), ⟨(zw_in2 20 rfl rfl), (zw_in2 22 rfl rfl), (zw_inS 8 rfl rfl), (zw_in1 1 rfl rfl)⟩, ⟨rfl, by decide, by decide, by decide⟩⟩
theorem kvX3_97 : zw_KV RX3 97 RX3 yX3_canMakeOrder cX3_canMakeOrder 4 (some .boolean) 3 := ⟨(zw_in2 31 rfl rfl), ⟨(zw_in2 28 rfl rfl), (zw_in2 30 rfl rfl), (zw_inS 9 rfl rfl), (zw_in1 1 rfl rfl)⟩, ⟨rfl, by decide, by decide, by decide⟩⟩
theorem kvX3_100 : zw_KV RX3 100 RX1 yX1_has cX1_has 2 (some .boolean) 1 := ⟨(zw_in1 187 rfl rfl), ⟨(zw_in1 184 rfl rfl), (zw_in1 185 rfl rfl), (zw_in1 186 rfl rfl), (zw_in1 2 rfl rfl)⟩, ⟨rfl, by decide, by decide, by decide⟩⟩
theorem kvX3_103 : zw_KV RX3 103 RX2 yX2_opensCall cX2_opensCall 1 (some .boolean) 0 := ⟨(zw_in1 199 rfl rfl), ⟨(zw_in1 196 rfl rfl), (zw_in1 197 rfl rfl), (zw_in1 198 rfl rfl), (zw_in1 4 rfl rfl)⟩, ⟨rfl, by decide, by decide, by decide⟩⟩
theorem kvX3_106 : zw_KV RX3 106 RX3 yX3_askScale cX3_askScale 5 (some .long) 2 := ⟨(zw_in1 203 rfl rfl), ⟨(zw_in1 200 rfl rfl), (zw_in1 202 rfl rfl), (zw_inS 3 rfl rfl), (zw_in1 1 rfl rfl)⟩, ⟨rfl, by decide, by decide, by decide⟩⟩
theorem kvX3_110 : zw_KV RX3 110 RX2 yX2_hasFailure cX2_hasFailure 1 (some .boolean) 0 := ⟨(zw_in1 211 rfl rfl), ⟨(zw_in2 7 rfl rfl), (zw_in1 209 rfl rfl), (zw_in1 210 rfl rfl), (zw_in1 4 rfl rfl)⟩, ⟨rfl, by decide, by decide, by decide⟩⟩
theorem kvX3_113 : zw_KV RX3 113 RX2 yX2_endFailedCall cX2_endFailedCall 1 (some .int) 0 := ⟨(zw_in2 11 rfl rfl), ⟨(zw_in2 8 rfl rfl), (zw_in2 9 rfl rfl), (zw_in2 10 rfl rfl), (zw_in1 4 rfl rfl)⟩, ⟨rfl, by decide, by decide, by decide⟩⟩
theorem kvX3_117 : zw_KV RX3 117 RX3 yX3_askSieve cX3_askSieve 5 (some .boolean) 2 := ⟨(zw_in1 227 rfl rfl), ⟨(zw_in1 224 rfl rfl), (zw_in1 226 rfl rfl), (zw_inS 5 rfl rfl), (zw_in1 1 rfl rfl)⟩, ⟨rfl, by decide, by decide, by decide⟩⟩
theorem kvX3_121 : zw_KV RX3 121 RX3 yX3_takeDraft cX3_takeDraft 2 none 1 := ⟨(zw_in2 43 rfl rfl), ⟨(zw_in2 40 rfl rfl), (zw_in2 42 rfl rfl), (zw_inS 10 rfl rfl), (zw_in1 1 rfl rfl)⟩, ⟨rfl, by decide, by decide, by decide⟩⟩
theorem kvX3_131 : zw_KV RX3 131 RX3 yX3_moveForward cX3_moveForward 5 (some .int) 2 := ⟨(zw_in2 54 rfl rfl), ⟨(zw_in2 51 rfl rfl), (zw_in2 53 rfl rfl), (zw_inS 11 rfl rfl), (zw_in1 1 rfl rfl)⟩, ⟨rfl, by decide, by decide, by decide⟩⟩
theorem kvX3_134 : zw_KV RX3 134 RX0 yX0_clear cX0_clear 1 none 0 := ⟨(zw_in2 81 rfl rfl), ⟨(zw_in2 78 rfl rfl), (zw_in2 79 rfl rfl), (zw_in2 80 rfl rfl), (zw_in1 3 rfl rfl)⟩, ⟨rfl, by decide, by decide, by decide⟩⟩
theorem kvX3_137 : zw_KV RX3 137 RX0 yX0_add cX0_add 7 none 3 := ⟨(zw_in2 85 rfl rfl), ⟨(zw_in2 82 rfl rfl), (zw_in2 83 rfl rfl), (zw_in2 84 rfl rfl), (zw_in1 3 rfl rfl)⟩, ⟨rfl, by decide, by decide, by decide⟩⟩
theorem kvX3_144 : zw_KV RX3 144 RX0 yX0_tellOf cX0_tellOf 3 (some .long) 2 := ⟨(zw_in2 101 rfl rfl), ⟨(zw_in2 98 rfl rfl), (zw_in2 99 rfl rfl), (zw_in2 100 rfl rfl), (zw_in1 3 rfl rfl)⟩, ⟨rfl, by decide, by decide, by decide⟩⟩
theorem kvX3_165 : zw_KV RX3 165 RX3 yX3_askOrder cX3_askOrder 6 (some .int) 3 := ⟨(zw_in2 58 rfl rfl), ⟨(zw_in2 55 rfl rfl), (zw_in2 57 rfl rfl), (zw_inS 12 rfl rfl), (zw_in1 1 rfl rfl)⟩, ⟨rfl, by decide, by decide, by decide⟩⟩
theorem kvX3_169 : zw_KV RX3 169 RX2 yX2_beginsAsking cX2_beginsAsking 1 (some .boolean) 0 := ⟨(zw_in1 207 rfl rfl), ⟨(zw_in1 204 rfl rfl), (zw_in1 205 rfl rfl), (zw_in1 206 rfl rfl), (zw_in1 4 rfl rfl)⟩, ⟨rfl, by decide, by decide, by decide⟩⟩
theorem kvX3_181 : zw_KV RX3 181 RX3 yX3_quotient cX3_quotient 5 (some .long) 2 := ⟨(zw_in1 219 rfl rfl), ⟨(zw_in1 216 rfl rfl), (zw_in1 218 rfl rfl), (zw_inS 4 rfl rfl), (zw_in1 1 rfl rfl)⟩, ⟨rfl, by decide, by decide, by decide⟩⟩
theorem kvX3_190 : zw_KV RX3 190 RX3 yX3_itemAt cX3_itemAt 3 (some .long) 1 := ⟨(zw_in2 6 rfl rfl), ⟨(zw_in2 3 rfl rfl), (zw_in2 5 rfl rfl), (zw_inS 7 rfl rfl), (zw_in1 1 rfl rfl)⟩, ⟨rfl, by decide, by decide, by decide⟩⟩
theorem kvX3_197 : zw_KV RX3 197 RX1 yX1_countAsked cX1_countAsked 2 (some .long) 1 := ⟨(zw_in1 231 rfl rfl), ⟨(zw_in1 228 rfl rfl), (zw_in1 229 rfl rfl), (zw_in1 230 rfl rfl), (zw_in1 2 rfl rfl)⟩, ⟨rfl, by decide, by decide, by decide⟩⟩
theorem kvX3_201 : zw_KV RX3 201 RX2 yX2_fail cX2_fail 2 none 1 := ⟨(zw_in1 215 rfl rfl), ⟨(zw_in1 220 rfl rfl), (zw_in1 213 rfl rfl), (zw_in1 214 rfl rfl), (zw_in1 4 rfl rfl)⟩, ⟨rfl, by decide, by decide, by decide⟩⟩
theorem kvX3_207 : zw_KV RX3 207 RX3 yX3_askSafely cX3_askSafely 4 (some .boolean) 2 := ⟨(zw_in1 238 rfl rfl), ⟨(zw_in1 235 rfl rfl), (zw_in1 237 rfl rfl), (zw_inS 6 rfl rfl), (zw_in1 1 rfl rfl)⟩, ⟨rfl, by decide, by decide, by decide⟩⟩
theorem kvX3_210 : zw_KS RX3 210 yX3_lesserFirst cX3_lesserFirst 4 (some .int) 2 := ⟨(zw_in2 61 rfl rfl), ⟨(zw_in2 59 rfl rfl), (zw_in2 60 rfl rfl), (zw_in1 1 rfl rfl)⟩, ⟨rfl, by decide, by decide, by decide⟩⟩
theorem kvX3_214 : zw_KV RX3 214 RX3 yX3_askThen cX3_askThen 6 (some .int) 4 := ⟨(zw_in2 65 rfl rfl), ⟨(zw_in2 62 rfl rfl), (zw_in2 64 rfl rfl), (zw_inS 13 rfl rfl), (zw_in1 1 rfl rfl)⟩, ⟨rfl, by decide, by decide, by decide⟩⟩
theorem kvX3_218 : zw_KV RX3 218 RX3 yX3_rankBySieve cX3_rankBySieve 3 (some .int) 2 := ⟨(zw_in2 69 rfl rfl), ⟨(zw_in2 66 rfl rfl), (zw_in2 68 rfl rfl), (zw_inS 14 rfl rfl), (zw_in1 1 rfl rfl)⟩, ⟨rfl, by decide, by decide, by decide⟩⟩
theorem kvX3_221 : zw_KV RX3 221 RX2 yX2_meetsFailure cX2_meetsFailure 1 (some .boolean) 0 := ⟨(zw_in2 2 rfl rfl), ⟨(zw_in1 239 rfl rfl), (zw_in2 0 rfl rfl), (zw_in2 1 rfl rfl), (zw_in1 4 rfl rfl)⟩, ⟨rfl, by decide, by decide, by decide⟩⟩
theorem lkmX3_125 : Cond.methodLink RX3 125 arraycopyName ∈ zw_tbl ∧ Cond.native arraycopyName ∈ zw_tbl ∧ Cond.static arraycopyName ∈ zw_tbl ∧ Cond.initialized "java/lang/System" ∈ zw_tbl := ⟨(zw_in2 44 rfl rfl), (zw_in2 46 rfl rfl), (zw_in2 45 rfl rfl), (zw_in1 7 rfl rfl)⟩
theorem lkmX3_185 : Cond.methodLink RX3 185 Lib.MathLoose.min_long.x ∈ zw_tbl ∧ Cond.static Lib.MathLoose.min_long.x ∈ zw_tbl ∧ Cond.initialized "java/lang/Math" ∈ zw_tbl ∧ Cond.code Lib.MathLoose.min_long.x Lib.MathLoose.min_long.code 4 (some .long) ∈ zw_tbl := ⟨(zw_in1 221 rfl rfl), (zw_in1 222 rfl rfl), (zw_in1 6 rfl rfl), (zw_in1 223 rfl rfl)⟩
theorem lkmX3_204 : Cond.methodLink RX3 204 Lib.Math.max.name ∈ zw_tbl ∧ Cond.static Lib.Math.max.name ∈ zw_tbl ∧ Cond.initialized "java/lang/Math" ∈ zw_tbl ∧ Cond.code Lib.Math.max.name Lib.Math.max.code 2 (some .int) ∈ zw_tbl := ⟨(zw_in1 232 rfl rfl), (zw_in1 233 rfl rfl), (zw_in1 6 rfl rfl), (zw_in1 234 rfl rfl)⟩
theorem lkcX3_163 : Cond.constantLong RX3 163 (8) ∈ zw_tbl := (zw_in1 167 rfl rfl)
