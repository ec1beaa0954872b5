theorem CLX0 : CLS 0 RX0 TX0 8 tyX0 := ⟨rfl, fun w hw => List.mem_filter.mpr ⟨(by decide +kernel : ∀ w ∈ wsX00, w ∈ lw_tbl) w hw, (by decide +kernel : ∀ w ∈ wsX00, goodWord w = true) w hw⟩, tyX0_ok, nmX0⟩
theorem fpX0_3 : FLP 0 3 := fun r h => by cases h; rfl
theorem fpX0_4 : FLP 0 4 := fun r h => by cases h; rfl
theorem fpX0_5 : FLP 0 5 := fun r h => by cases h; rfl
theorem fpX0_6 : FLP 0 6 := fun r h => by cases h; rfl
theorem fpX0_7 : FLP 0 7 := fun r h => by cases h; rfl
theorem CLX1 : CLS 1 RX1 TX1 2 tyX1 := ⟨rfl, fun w hw => List.mem_filter.mpr ⟨(by decide +kernel : ∀ w ∈ wsX10, w ∈ lw_tbl) w hw, (by decide +kernel : ∀ w ∈ wsX10, goodWord w = true) w hw⟩, tyX1_ok, nmX1⟩
theorem CLX2 : CLS 2 RX2 TX2 3 tyX2 := ⟨rfl, fun w hw => List.mem_filter.mpr ⟨(by decide +kernel : ∀ w ∈ wsX20, w ∈ lw_tbl) w hw, (by decide +kernel : ∀ w ∈ wsX20, goodWord w = true) w hw⟩, tyX2_ok, nmX2⟩
theorem fpX2_2 : FLP 2 2 := fun r h => by cases h; rfl
theorem CLX3 : CLS 3 RX3 TX3 2 tyX3 := ⟨rfl, fun w hw => List.mem_filter.mpr ⟨(by decide +kernel : ∀ w ∈ wsX30, w ∈ lw_tbl) w hw, (by decide +kernel : ∀ w ∈ wsX30, goodWord w = true) w hw⟩, tyX3_ok, nmX3⟩
theorem fpX3_1 : FLP 3 1 := fun r h => by cases h; rfl
theorem CLX4 : CLS 4 RX4 TX4 3 tyX4 := ⟨rfl, fun w hw => List.mem_filter.mpr ⟨(by decide +kernel : ∀ w ∈ wsX40, w ∈ lw_tbl) w hw, (by decide +kernel : ∀ w ∈ wsX40, goodWord w = true) w hw⟩, tyX4_ok, nmX4⟩
theorem fpX4_2 : FLP 4 2 := fun r h => by cases h; rfl
theorem CLX5 : CLS 5 RX5 TX5 7 tyX5 := ⟨rfl, fun w hw => List.mem_filter.mpr ⟨(by decide +kernel : ∀ w ∈ wsX50, w ∈ lw_tbl) w hw, (by decide +kernel : ∀ w ∈ wsX50, goodWord w = true) w hw⟩, tyX5_ok, nmX5⟩
theorem fpX5_1 : FLP 5 1 := fun r h => by cases h; rfl
theorem fpX5_2 : FLP 5 2 := fun r h => by cases h; rfl
theorem fpX5_3 : FLP 5 3 := fun r h => by cases h; rfl
theorem fpX5_4 : FLP 5 4 := fun r h => by cases h; rfl
theorem fpX5_5 : FLP 5 5 := fun r h => by cases h; rfl
theorem fpX5_6 : FLP 5 6 := fun r h => by cases h; rfl
theorem CLX6 : CLS 6 RX6 TX6 10 tyX6 := ⟨rfl, fun w hw => List.mem_filter.mpr ⟨(by decide +kernel : ∀ w ∈ wsX60, w ∈ lw_tbl) w hw, (by decide +kernel : ∀ w ∈ wsX60, goodWord w = true) w hw⟩, tyX6_ok, nmX6⟩
theorem fpX6_9 : FLP 6 9 := fun r h => by cases h; rfl
theorem CLX7 : CLS 7 RX7 TX7 20 tyX7 := ⟨rfl, fun w hw => List.mem_filter.mpr ⟨(by decide +kernel : ∀ w ∈ wsX70, w ∈ lw_tbl) w hw, (by decide +kernel : ∀ w ∈ wsX70, goodWord w = true) w hw⟩, tyX7_ok, nmX7⟩
theorem fpX7_2 : FLP 7 2 := fun r h => by cases h; rfl
theorem fpX7_3 : FLP 7 3 := fun r h => by cases h; rfl
theorem fpX7_5 : FLP 7 5 := fun r h => by cases h; rfl
theorem fpX7_7 : FLP 7 7 := fun r h => by cases h; rfl
theorem fpX7_8 : FLP 7 8 := fun r h => by cases h; rfl
theorem fpX7_9 : FLP 7 9 := fun r h => by cases h; rfl
theorem fpX7_10 : FLP 7 10 := fun r h => by cases h; rfl
theorem fpX7_11 : FLP 7 11 := fun r h => by cases h; rfl
theorem fpX7_12 : FLP 7 12 := fun r h => by cases h; rfl
set_option maxRecDepth 20000 in
theorem fX0_9 : FLK RX0 9 0 0 (.array .int) := ⟨RX0, TX0, 8, tyX0, CLX0, by decide, gtbl_in (w := Cond.fieldLink RX0 9 RX0 (TX0 0).2.1 (TX0 0).2.2.1) 46 (by rfl) (by rfl), rfl, rfl⟩
set_option maxRecDepth 20000 in
theorem fX6_83 : FLK RX6 83 0 0 (.array .int) := ⟨RX0, TX0, 8, tyX0, CLX0, by decide, gtbl_in (w := Cond.fieldLink RX6 83 RX0 (TX0 0).2.1 (TX0 0).2.2.1) 47 (by rfl) (by rfl), rfl, rfl⟩
set_option maxRecDepth 20000 in
theorem fX0_15 : FLK RX0 15 0 1 (.array .int) := ⟨RX0, TX0, 8, tyX0, CLX0, by decide, gtbl_in (w := Cond.fieldLink RX0 15 RX0 (TX0 1).2.1 (TX0 1).2.2.1) 48 (by rfl) (by rfl), rfl, rfl⟩
set_option maxRecDepth 20000 in
theorem fX6_140 : FLK RX6 140 0 1 (.array .int) := ⟨RX0, TX0, 8, tyX0, CLX0, by decide, gtbl_in (w := Cond.fieldLink RX6 140 RX0 (TX0 1).2.1 (TX0 1).2.2.1) 49 (by rfl) (by rfl), rfl, rfl⟩
set_option maxRecDepth 20000 in
theorem fX0_18 : FLK RX0 18 0 2 (.array .int) := ⟨RX0, TX0, 8, tyX0, CLX0, by decide, gtbl_in (w := Cond.fieldLink RX0 18 RX0 (TX0 2).2.1 (TX0 2).2.2.1) 50 (by rfl) (by rfl), rfl, rfl⟩
set_option maxRecDepth 20000 in
theorem fX6_143 : FLK RX6 143 0 2 (.array .int) := ⟨RX0, TX0, 8, tyX0, CLX0, by decide, gtbl_in (w := Cond.fieldLink RX6 143 RX0 (TX0 2).2.1 (TX0 2).2.2.1) 51 (by rfl) (by rfl), rfl, rfl⟩
set_option maxRecDepth 20000 in
theorem fX0_25 : FLK RX0 25 0 3 .int := ⟨RX0, TX0, 8, tyX0, CLX0, by decide, gtbl_in (w := Cond.fieldLink RX0 25 RX0 (TX0 3).2.1 (TX0 3).2.2.1) 52 (by rfl) (by rfl), rfl, rfl⟩
set_option maxRecDepth 20000 in
theorem fX6_146 : FLK RX6 146 0 3 .int := ⟨RX0, TX0, 8, tyX0, CLX0, by decide, gtbl_in (w := Cond.fieldLink RX6 146 RX0 (TX0 3).2.1 (TX0 3).2.2.1) 53 (by rfl) (by rfl), rfl, rfl⟩
set_option maxRecDepth 20000 in
theorem fX0_28 : FLK RX0 28 0 4 .int := ⟨RX0, TX0, 8, tyX0, CLX0, by decide, gtbl_in (w := Cond.fieldLink RX0 28 RX0 (TX0 4).2.1 (TX0 4).2.2.1) 54 (by rfl) (by rfl), rfl, rfl⟩
set_option maxRecDepth 20000 in
theorem fX6_149 : FLK RX6 149 0 4 .int := ⟨RX0, TX0, 8, tyX0, CLX0, by decide, gtbl_in (w := Cond.fieldLink RX6 149 RX0 (TX0 4).2.1 (TX0 4).2.2.1) 55 (by rfl) (by rfl), rfl, rfl⟩
set_option maxRecDepth 20000 in
theorem fX0_31 : FLK RX0 31 0 5 .int := ⟨RX0, TX0, 8, tyX0, CLX0, by decide, gtbl_in (w := Cond.fieldLink RX0 31 RX0 (TX0 5).2.1 (TX0 5).2.2.1) 56 (by rfl) (by rfl), rfl, rfl⟩
set_option maxRecDepth 20000 in
theorem fX6_92 : FLK RX6 92 0 5 .int := ⟨RX0, TX0, 8, tyX0, CLX0, by decide, gtbl_in (w := Cond.fieldLink RX6 92 RX0 (TX0 5).2.1 (TX0 5).2.2.1) 57 (by rfl) (by rfl), rfl, rfl⟩
set_option maxRecDepth 20000 in
theorem fX0_21 : FLK RX0 21 0 6 .int := ⟨RX0, TX0, 8, tyX0, CLX0, by decide, gtbl_in (w := Cond.fieldLink RX0 21 RX0 (TX0 6).2.1 (TX0 6).2.2.1) 58 (by rfl) (by rfl), rfl, rfl⟩
set_option maxRecDepth 20000 in
theorem fX6_101 : FLK RX6 101 0 6 .int := ⟨RX0, TX0, 8, tyX0, CLX0, by decide, gtbl_in (w := Cond.fieldLink RX6 101 RX0 (TX0 6).2.1 (TX0 6).2.2.1) 59 (by rfl) (by rfl), rfl, rfl⟩
set_option maxRecDepth 20000 in
theorem fX0_34 : FLK RX0 34 0 7 .int := ⟨RX0, TX0, 8, tyX0, CLX0, by decide, gtbl_in (w := Cond.fieldLink RX0 34 RX0 (TX0 7).2.1 (TX0 7).2.2.1) 60 (by rfl) (by rfl), rfl, rfl⟩
set_option maxRecDepth 20000 in
theorem fX6_155 : FLK RX6 155 0 7 .int := ⟨RX0, TX0, 8, tyX0, CLX0, by decide, gtbl_in (w := Cond.fieldLink RX6 155 RX0 (TX0 7).2.1 (TX0 7).2.2.1) 61 (by rfl) (by rfl), rfl, rfl⟩
set_option maxRecDepth 20000 in
theorem fX3_9 : FLK RX3 9 3 0 (.array .int) := ⟨RX3, TX3, 2, tyX3, CLX3, by decide, gtbl_in (w := Cond.fieldLink RX3 9 RX3 (TX3 0).2.1 (TX3 0).2.2.1) 86 (by rfl) (by rfl), rfl, rfl⟩
set_option maxRecDepth 20000 in
theorem fX5_32 : FLK RX5 32 3 0 (.array .int) := ⟨RX3, TX3, 2, tyX3, CLX3, by decide, gtbl_in (w := Cond.fieldLink RX5 32 RX3 (TX3 0).2.1 (TX3 0).2.2.1) 87 (by rfl) (by rfl), rfl, rfl⟩
set_option maxRecDepth 20000 in
theorem fX3_15 : FLK RX3 15 3 1 .int := ⟨RX3, TX3, 2, tyX3, CLX3, by decide, gtbl_in (w := Cond.fieldLink RX3 15 RX3 (TX3 1).2.1 (TX3 1).2.2.1) 88 (by rfl) (by rfl), rfl, rfl⟩
set_option maxRecDepth 20000 in
theorem fX5_28 : FLK RX5 28 3 1 .int := ⟨RX3, TX3, 2, tyX3, CLX3, by decide, gtbl_in (w := Cond.fieldLink RX5 28 RX3 (TX3 1).2.1 (TX3 1).2.2.1) 89 (by rfl) (by rfl), rfl, rfl⟩
set_option maxRecDepth 20000 in
theorem fX6_111 : FLK RX6 111 3 1 .int := ⟨RX3, TX3, 2, tyX3, CLX3, by decide, gtbl_in (w := Cond.fieldLink RX6 111 RX3 (TX3 1).2.1 (TX3 1).2.2.1) 90 (by rfl) (by rfl), rfl, rfl⟩
set_option maxRecDepth 20000 in
theorem fX4_9 : FLK RX4 9 4 0 (.array .int) := ⟨RX4, TX4, 3, tyX4, CLX4, by decide, gtbl_in (w := Cond.fieldLink RX4 9 RX4 (TX4 0).2.1 (TX4 0).2.2.1) 102 (by rfl) (by rfl), rfl, rfl⟩
set_option maxRecDepth 20000 in
theorem fX4_15 : FLK RX4 15 4 1 (.array .int) := ⟨RX4, TX4, 3, tyX4, CLX4, by decide, gtbl_in (w := Cond.fieldLink RX4 15 RX4 (TX4 1).2.1 (TX4 1).2.2.1) 103 (by rfl) (by rfl), rfl, rfl⟩
set_option maxRecDepth 20000 in
theorem fX4_18 : FLK RX4 18 4 2 .int := ⟨RX4, TX4, 3, tyX4, CLX4, by decide, gtbl_in (w := Cond.fieldLink RX4 18 RX4 (TX4 2).2.1 (TX4 2).2.2.1) 104 (by rfl) (by rfl), rfl, rfl⟩
set_option maxRecDepth 20000 in
theorem fX6_206 : FLK RX6 206 4 2 .int := ⟨RX4, TX4, 3, tyX4, CLX4, by decide, gtbl_in (w := Cond.fieldLink RX6 206 RX4 (TX4 2).2.1 (TX4 2).2.2.1) 105 (by rfl) (by rfl), rfl, rfl⟩
set_option maxRecDepth 20000 in
theorem fX2_10 : FLK RX2 10 2 0 (.object "TurfHeaps$Clearing") := ⟨RX2, TX2, 3, tyX2, CLX2, by decide, gtbl_in (w := Cond.fieldLink RX2 10 RX2 (TX2 0).2.1 (TX2 0).2.2.1) 123 (by rfl) (by rfl), rfl, rfl⟩
set_option maxRecDepth 20000 in
theorem fX6_270 : FLK RX6 270 2 0 (.object "TurfHeaps$Clearing") := ⟨RX2, TX2, 3, tyX2, CLX2, by decide, gtbl_in (w := Cond.fieldLink RX6 270 RX2 (TX2 0).2.1 (TX2 0).2.2.1) 124 (by rfl) (by rfl), rfl, rfl⟩
set_option maxRecDepth 20000 in
theorem fX2_19 : FLK RX2 19 2 1 (.object "TurfHeaps$Sights") := ⟨RX2, TX2, 3, tyX2, CLX2, by decide, gtbl_in (w := Cond.fieldLink RX2 19 RX2 (TX2 1).2.1 (TX2 1).2.2.1) 125 (by rfl) (by rfl), rfl, rfl⟩
set_option maxRecDepth 20000 in
theorem fX6_273 : FLK RX6 273 2 1 (.object "TurfHeaps$Sights") := ⟨RX2, TX2, 3, tyX2, CLX2, by decide, gtbl_in (w := Cond.fieldLink RX6 273 RX2 (TX2 1).2.1 (TX2 1).2.2.1) 126 (by rfl) (by rfl), rfl, rfl⟩
set_option maxRecDepth 20000 in
theorem fX6_277 : FLK RX6 277 2 2 .boolean := ⟨RX2, TX2, 3, tyX2, CLX2, by decide, gtbl_in (w := Cond.fieldLink RX6 277 RX2 (TX2 2).2.1 (TX2 2).2.2.1) 127 (by rfl) (by rfl), rfl, rfl⟩
set_option maxRecDepth 20000 in
theorem fX5_12 : FLK RX5 12 5 0 (.object "TurfHeaps$Clearing") := ⟨RX5, TX5, 7, tyX5, CLX5, by decide, gtbl_in (w := Cond.fieldLink RX5 12 RX5 (TX5 0).2.1 (TX5 0).2.2.1) 143 (by rfl) (by rfl), rfl, rfl⟩
set_option maxRecDepth 20000 in
theorem fX6_128 : FLK RX6 128 5 0 (.object "TurfHeaps$Clearing") := ⟨RX5, TX5, 7, tyX5, CLX5, by decide, gtbl_in (w := Cond.fieldLink RX6 128 RX5 (TX5 0).2.1 (TX5 0).2.2.1) 144 (by rfl) (by rfl), rfl, rfl⟩
set_option maxRecDepth 20000 in
theorem fX5_48 : FLK RX5 48 5 1 .int := ⟨RX5, TX5, 7, tyX5, CLX5, by decide, gtbl_in (w := Cond.fieldLink RX5 48 RX5 (TX5 1).2.1 (TX5 1).2.2.1) 145 (by rfl) (by rfl), rfl, rfl⟩
set_option maxRecDepth 20000 in
theorem fX6_135 : FLK RX6 135 5 1 .int := ⟨RX5, TX5, 7, tyX5, CLX5, by decide, gtbl_in (w := Cond.fieldLink RX6 135 RX5 (TX5 1).2.1 (TX5 1).2.2.1) 146 (by rfl) (by rfl), rfl, rfl⟩
set_option maxRecDepth 20000 in
theorem fX5_51 : FLK RX5 51 5 2 .int := ⟨RX5, TX5, 7, tyX5, CLX5, by decide, gtbl_in (w := Cond.fieldLink RX5 51 RX5 (TX5 2).2.1 (TX5 2).2.2.1) 147 (by rfl) (by rfl), rfl, rfl⟩
set_option maxRecDepth 20000 in
theorem fX6_122 : FLK RX6 122 5 2 .int := ⟨RX5, TX5, 7, tyX5, CLX5, by decide, gtbl_in (w := Cond.fieldLink RX6 122 RX5 (TX5 2).2.1 (TX5 2).2.2.1) 148 (by rfl) (by rfl), rfl, rfl⟩
set_option maxRecDepth 20000 in
theorem fX5_54 : FLK RX5 54 5 3 .int := ⟨RX5, TX5, 7, tyX5, CLX5, by decide, gtbl_in (w := Cond.fieldLink RX5 54 RX5 (TX5 3).2.1 (TX5 3).2.2.1) 149 (by rfl) (by rfl), rfl, rfl⟩
set_option maxRecDepth 20000 in
theorem fX6_125 : FLK RX6 125 5 3 .int := ⟨RX5, TX5, 7, tyX5, CLX5, by decide, gtbl_in (w := Cond.fieldLink RX6 125 RX5 (TX5 3).2.1 (TX5 3).2.2.1) 150 (by rfl) (by rfl), rfl, rfl⟩
set_option maxRecDepth 20000 in
theorem fX5_67 : FLK RX5 67 5 4 .int := ⟨RX5, TX5, 7, tyX5, CLX5, by decide, gtbl_in (w := Cond.fieldLink RX5 67 RX5 (TX5 4).2.1 (TX5 4).2.2.1) 151 (by rfl) (by rfl), rfl, rfl⟩
set_option maxRecDepth 20000 in
theorem fX6_152 : FLK RX6 152 5 4 .int := ⟨RX5, TX5, 7, tyX5, CLX5, by decide, gtbl_in (w := Cond.fieldLink RX6 152 RX5 (TX5 4).2.1 (TX5 4).2.2.1) 152 (by rfl) (by rfl), rfl, rfl⟩
set_option maxRecDepth 20000 in
theorem fX5_70 : FLK RX5 70 5 5 .int := ⟨RX5, TX5, 7, tyX5, CLX5, by decide, gtbl_in (w := Cond.fieldLink RX5 70 RX5 (TX5 5).2.1 (TX5 5).2.2.1) 153 (by rfl) (by rfl), rfl, rfl⟩
set_option maxRecDepth 20000 in
theorem fX6_158 : FLK RX6 158 5 5 .int := ⟨RX5, TX5, 7, tyX5, CLX5, by decide, gtbl_in (w := Cond.fieldLink RX6 158 RX5 (TX5 5).2.1 (TX5 5).2.2.1) 154 (by rfl) (by rfl), rfl, rfl⟩
set_option maxRecDepth 20000 in
theorem fX5_73 : FLK RX5 73 5 6 .int := ⟨RX5, TX5, 7, tyX5, CLX5, by decide, gtbl_in (w := Cond.fieldLink RX5 73 RX5 (TX5 6).2.1 (TX5 6).2.2.1) 155 (by rfl) (by rfl), rfl, rfl⟩
set_option maxRecDepth 20000 in
theorem fX6_161 : FLK RX6 161 5 6 .int := ⟨RX5, TX5, 7, tyX5, CLX5, by decide, gtbl_in (w := Cond.fieldLink RX6 161 RX5 (TX5 6).2.1 (TX5 6).2.2.1) 156 (by rfl) (by rfl), rfl, rfl⟩
set_option maxRecDepth 20000 in
theorem fX1_9 : FLK RX1 9 1 0 (.array .int) := ⟨RX1, TX1, 2, tyX1, CLX1, by decide, gtbl_in (w := Cond.fieldLink RX1 9 RX1 (TX1 0).2.1 (TX1 0).2.2.1) 178 (by rfl) (by rfl), rfl, rfl⟩
set_option maxRecDepth 20000 in
theorem fX1_15 : FLK RX1 15 1 1 (.array .int) := ⟨RX1, TX1, 2, tyX1, CLX1, by decide, gtbl_in (w := Cond.fieldLink RX1 15 RX1 (TX1 1).2.1 (TX1 1).2.2.1) 179 (by rfl) (by rfl), rfl, rfl⟩
set_option maxRecDepth 20000 in
theorem fX6_12 : FLK RX6 12 6 0 (.object "TurfHeaps$Clearing") := ⟨RX6, TX6, 10, tyX6, CLX6, by decide, gtbl_in (w := Cond.fieldLink RX6 12 RX6 (TX6 0).2.1 (TX6 0).2.2.1) 185 (by rfl) (by rfl), rfl, rfl⟩
set_option maxRecDepth 20000 in
theorem fX6_19 : FLK RX6 19 6 1 (.object "TurfHeaps$Pad") := ⟨RX6, TX6, 10, tyX6, CLX6, by decide, gtbl_in (w := Cond.fieldLink RX6 19 RX6 (TX6 1).2.1 (TX6 1).2.2.1) 186 (by rfl) (by rfl), rfl, rfl⟩
set_option maxRecDepth 20000 in
theorem fX6_26 : FLK RX6 26 6 2 (.object "TurfHeaps$Sights") := ⟨RX6, TX6, 10, tyX6, CLX6, by decide, gtbl_in (w := Cond.fieldLink RX6 26 RX6 (TX6 2).2.1 (TX6 2).2.2.1) 187 (by rfl) (by rfl), rfl, rfl⟩
set_option maxRecDepth 20000 in
theorem fX6_33 : FLK RX6 33 6 3 (.object "TurfHeaps$Image") := ⟨RX6, TX6, 10, tyX6, CLX6, by decide, gtbl_in (w := Cond.fieldLink RX6 33 RX6 (TX6 3).2.1 (TX6 3).2.2.1) 188 (by rfl) (by rfl), rfl, rfl⟩
set_option maxRecDepth 20000 in
theorem fX6_37 : FLK RX6 37 6 4 (.object "TurfHeaps$Image") := ⟨RX6, TX6, 10, tyX6, CLX6, by decide, gtbl_in (w := Cond.fieldLink RX6 37 RX6 (TX6 4).2.1 (TX6 4).2.2.1) 189 (by rfl) (by rfl), rfl, rfl⟩
set_option maxRecDepth 20000 in
theorem fX6_43 : FLK RX6 43 6 5 (.object "TurfHeaps$Week") := ⟨RX6, TX6, 10, tyX6, CLX6, by decide, gtbl_in (w := Cond.fieldLink RX6 43 RX6 (TX6 5).2.1 (TX6 5).2.2.1) 190 (by rfl) (by rfl), rfl, rfl⟩
set_option maxRecDepth 20000 in
theorem fX6_50 : FLK RX6 50 6 6 (.object "TurfHeaps$DueRows") := ⟨RX6, TX6, 10, tyX6, CLX6, by decide, gtbl_in (w := Cond.fieldLink RX6 50 RX6 (TX6 6).2.1 (TX6 6).2.2.1) 191 (by rfl) (by rfl), rfl, rfl⟩
set_option maxRecDepth 20000 in
theorem fX6_54 : FLK RX6 54 6 7 (.array .int) := ⟨RX6, TX6, 10, tyX6, CLX6, by decide, gtbl_in (w := Cond.fieldLink RX6 54 RX6 (TX6 7).2.1 (TX6 7).2.2.1) 192 (by rfl) (by rfl), rfl, rfl⟩
set_option maxRecDepth 20000 in
theorem fX6_58 : FLK RX6 58 6 8 (.array .int) := ⟨RX6, TX6, 10, tyX6, CLX6, by decide, gtbl_in (w := Cond.fieldLink RX6 58 RX6 (TX6 8).2.1 (TX6 8).2.2.1) 193 (by rfl) (by rfl), rfl, rfl⟩
set_option maxRecDepth 20000 in
theorem fX6_61 : FLK RX6 61 6 9 .int := ⟨RX6, TX6, 10, tyX6, CLX6, by decide, gtbl_in (w := Cond.fieldLink RX6 61 RX6 (TX6 9).2.1 (TX6 9).2.2.1) 194 (by rfl) (by rfl), rfl, rfl⟩
set_option maxRecDepth 20000 in
theorem fX7_7 : FLK RX7 7 7 0 (.array .int) := ⟨RX7, TX7, 20, tyX7, CLX7, by decide, gtbl_in (w := Cond.fieldLink RX7 7 RX7 (TX7 0).2.1 (TX7 0).2.2.1) 545 (by rfl) (by rfl), rfl, rfl⟩
set_option maxRecDepth 20000 in
theorem fX7_13 : FLK RX7 13 7 1 (.array .int) := ⟨RX7, TX7, 20, tyX7, CLX7, by decide, gtbl_in (w := Cond.fieldLink RX7 13 RX7 (TX7 1).2.1 (TX7 1).2.2.1) 546 (by rfl) (by rfl), rfl, rfl⟩
set_option maxRecDepth 20000 in
theorem fX7_16 : FLK RX7 16 7 2 .int := ⟨RX7, TX7, 20, tyX7, CLX7, by decide, gtbl_in (w := Cond.fieldLink RX7 16 RX7 (TX7 2).2.1 (TX7 2).2.2.1) 547 (by rfl) (by rfl), rfl, rfl⟩
set_option maxRecDepth 20000 in
theorem fX7_131 : FLK RX7 131 7 3 .int := ⟨RX7, TX7, 20, tyX7, CLX7, by decide, gtbl_in (w := Cond.fieldLink RX7 131 RX7 (TX7 3).2.1 (TX7 3).2.2.1) 548 (by rfl) (by rfl), rfl, rfl⟩
set_option maxRecDepth 20000 in
theorem fX7_20 : FLK RX7 20 7 4 (.array .int) := ⟨RX7, TX7, 20, tyX7, CLX7, by decide, gtbl_in (w := Cond.fieldLink RX7 20 RX7 (TX7 4).2.1 (TX7 4).2.2.1) 549 (by rfl) (by rfl), rfl, rfl⟩
set_option maxRecDepth 20000 in
theorem fX7_60 : FLK RX7 60 7 5 .int := ⟨RX7, TX7, 20, tyX7, CLX7, by decide, gtbl_in (w := Cond.fieldLink RX7 60 RX7 (TX7 5).2.1 (TX7 5).2.2.1) 550 (by rfl) (by rfl), rfl, rfl⟩
set_option maxRecDepth 20000 in
theorem fX7_23 : FLK RX7 23 7 6 (.array .int) := ⟨RX7, TX7, 20, tyX7, CLX7, by decide, gtbl_in (w := Cond.fieldLink RX7 23 RX7 (TX7 6).2.1 (TX7 6).2.2.1) 551 (by rfl) (by rfl), rfl, rfl⟩
set_option maxRecDepth 20000 in
theorem fX7_67 : FLK RX7 67 7 7 .int := ⟨RX7, TX7, 20, tyX7, CLX7, by decide, gtbl_in (w := Cond.fieldLink RX7 67 RX7 (TX7 7).2.1 (TX7 7).2.2.1) 552 (by rfl) (by rfl), rfl, rfl⟩
set_option maxRecDepth 20000 in
theorem fX7_70 : FLK RX7 70 7 8 .int := ⟨RX7, TX7, 20, tyX7, CLX7, by decide, gtbl_in (w := Cond.fieldLink RX7 70 RX7 (TX7 8).2.1 (TX7 8).2.2.1) 553 (by rfl) (by rfl), rfl, rfl⟩
set_option maxRecDepth 20000 in
theorem fX7_73 : FLK RX7 73 7 9 .int := ⟨RX7, TX7, 20, tyX7, CLX7, by decide, gtbl_in (w := Cond.fieldLink RX7 73 RX7 (TX7 9).2.1 (TX7 9).2.2.1) 554 (by rfl) (by rfl), rfl, rfl⟩
set_option maxRecDepth 20000 in
theorem fX7_90 : FLK RX7 90 7 10 .int := ⟨RX7, TX7, 20, tyX7, CLX7, by decide, gtbl_in (w := Cond.fieldLink RX7 90 RX7 (TX7 10).2.1 (TX7 10).2.2.1) 555 (by rfl) (by rfl), rfl, rfl⟩
set_option maxRecDepth 20000 in
theorem fX7_102 : FLK RX7 102 7 11 .int := ⟨RX7, TX7, 20, tyX7, CLX7, by decide, gtbl_in (w := Cond.fieldLink RX7 102 RX7 (TX7 11).2.1 (TX7 11).2.2.1) 556 (by rfl) (by rfl), rfl, rfl⟩
set_option maxRecDepth 20000 in
theorem fX7_96 : FLK RX7 96 7 12 .int := ⟨RX7, TX7, 20, tyX7, CLX7, by decide, gtbl_in (w := Cond.fieldLink RX7 96 RX7 (TX7 12).2.1 (TX7 12).2.2.1) 557 (by rfl) (by rfl), rfl, rfl⟩
set_option maxRecDepth 20000 in
theorem fX7_26 : FLK RX7 26 7 13 (.array .int) := ⟨RX7, TX7, 20, tyX7, CLX7, by decide, gtbl_in (w := Cond.fieldLink RX7 26 RX7 (TX7 13).2.1 (TX7 13).2.2.1) 558 (by rfl) (by rfl), rfl, rfl⟩
set_option maxRecDepth 20000 in
theorem fX7_29 : FLK RX7 29 7 14 (.array .int) := ⟨RX7, TX7, 20, tyX7, CLX7, by decide, gtbl_in (w := Cond.fieldLink RX7 29 RX7 (TX7 14).2.1 (TX7 14).2.2.1) 559 (by rfl) (by rfl), rfl, rfl⟩
set_option maxRecDepth 20000 in
theorem fX7_32 : FLK RX7 32 7 15 (.array .int) := ⟨RX7, TX7, 20, tyX7, CLX7, by decide, gtbl_in (w := Cond.fieldLink RX7 32 RX7 (TX7 15).2.1 (TX7 15).2.2.1) 560 (by rfl) (by rfl), rfl, rfl⟩
set_option maxRecDepth 20000 in
theorem fX7_35 : FLK RX7 35 7 16 (.array .int) := ⟨RX7, TX7, 20, tyX7, CLX7, by decide, gtbl_in (w := Cond.fieldLink RX7 35 RX7 (TX7 16).2.1 (TX7 16).2.2.1) 561 (by rfl) (by rfl), rfl, rfl⟩
set_option maxRecDepth 20000 in
theorem fX7_38 : FLK RX7 38 7 17 (.array .boolean) := ⟨RX7, TX7, 20, tyX7, CLX7, by decide, gtbl_in (w := Cond.fieldLink RX7 38 RX7 (TX7 17).2.1 (TX7 17).2.2.1) 562 (by rfl) (by rfl), rfl, rfl⟩
set_option maxRecDepth 20000 in
theorem fX7_42 : FLK RX7 42 7 18 (.array .int) := ⟨RX7, TX7, 20, tyX7, CLX7, by decide, gtbl_in (w := Cond.fieldLink RX7 42 RX7 (TX7 18).2.1 (TX7 18).2.2.1) 563 (by rfl) (by rfl), rfl, rfl⟩
set_option maxRecDepth 20000 in
theorem fX7_45 : FLK RX7 45 7 19 (.array .boolean) := ⟨RX7, TX7, 20, tyX7, CLX7, by decide, gtbl_in (w := Cond.fieldLink RX7 45 RX7 (TX7 19).2.1 (TX7 19).2.2.1) 564 (by rfl) (by rfl), rfl, rfl⟩
set_option maxRecDepth 20000 in
theorem qX6_284 : Cond.constantLong RX6 284 (5) ∈ gtbl := gtbl_in (w := Cond.constantLong RX6 284 (5)) 223 (by rfl) (by rfl)
set_option maxRecDepth 20000 in
theorem qX6_69 : Cond.constantLong RX6 69 (-1) ∈ gtbl := gtbl_in (w := Cond.constantLong RX6 69 (-1)) 227 (by rfl) (by rfl)
set_option maxRecDepth 20000 in
theorem qX6_71 : Cond.constantLong RX6 71 (24) ∈ gtbl := gtbl_in (w := Cond.constantLong RX6 71 (24)) 228 (by rfl) (by rfl)
set_option maxRecDepth 20000 in
theorem qX6_77 : Cond.constantLong RX6 77 (9) ∈ gtbl := gtbl_in (w := Cond.constantLong RX6 77 (9)) 229 (by rfl) (by rfl)
set_option maxRecDepth 20000 in
theorem qX6_90 : Cond.constantLong RX6 90 (6) ∈ gtbl := gtbl_in (w := Cond.constantLong RX6 90 (6)) 242 (by rfl) (by rfl)
set_option maxRecDepth 20000 in
theorem qJ6_265 : Cond.constant RJ6 265 (1431655765) ∈ gtbl := gtbl_in (w := Cond.constant RJ6 265 (1431655765)) 246 (by rfl) (by rfl)
set_option maxRecDepth 20000 in
theorem qJ6_266 : Cond.constant RJ6 266 (858993459) ∈ gtbl := gtbl_in (w := Cond.constant RJ6 266 (858993459)) 247 (by rfl) (by rfl)
set_option maxRecDepth 20000 in
theorem qJ6_267 : Cond.constant RJ6 267 (252645135) ∈ gtbl := gtbl_in (w := Cond.constant RJ6 267 (252645135)) 248 (by rfl) (by rfl)
set_option maxRecDepth 20000 in
theorem qX6_104 : Cond.constantLong RX6 104 (33) ∈ gtbl := gtbl_in (w := Cond.constantLong RX6 104 (33)) 253 (by rfl) (by rfl)
set_option maxRecDepth 20000 in
theorem qX6_106 : Cond.constantLong RX6 106 (126) ∈ gtbl := gtbl_in (w := Cond.constantLong RX6 106 (126)) 254 (by rfl) (by rfl)
set_option maxRecDepth 20000 in
theorem qX3_26 : Cond.constantLong RX3 26 (65) ∈ gtbl := gtbl_in (w := Cond.constantLong RX3 26 (65)) 274 (by rfl) (by rfl)
set_option maxRecDepth 20000 in
theorem qX3_28 : Cond.constantLong RX3 28 (70) ∈ gtbl := gtbl_in (w := Cond.constantLong RX3 28 (70)) 275 (by rfl) (by rfl)
set_option maxRecDepth 20000 in
theorem qX3_34 : Cond.constantLong RX3 34 (97) ∈ gtbl := gtbl_in (w := Cond.constantLong RX3 34 (97)) 283 (by rfl) (by rfl)
set_option maxRecDepth 20000 in
theorem qX3_36 : Cond.constantLong RX3 36 (121) ∈ gtbl := gtbl_in (w := Cond.constantLong RX3 36 (121)) 284 (by rfl) (by rfl)
set_option maxRecDepth 20000 in
theorem qX6_138 : Cond.constantLong RX6 138 (2) ∈ gtbl := gtbl_in (w := Cond.constantLong RX6 138 (2)) 360 (by rfl) (by rfl)
set_option maxRecDepth 20000 in
theorem qX6_177 : Cond.constantLong RX6 177 (8) ∈ gtbl := gtbl_in (w := Cond.constantLong RX6 177 (8)) 391 (by rfl) (by rfl)
set_option maxRecDepth 20000 in
theorem qX1_18 : Cond.constantLong RX1 18 (100) ∈ gtbl := gtbl_in (w := Cond.constantLong RX1 18 (100)) 400 (by rfl) (by rfl)
set_option maxRecDepth 20000 in
theorem qX6_189 : Cond.constantLong RX6 189 (9999) ∈ gtbl := gtbl_in (w := Cond.constantLong RX6 189 (9999)) 419 (by rfl) (by rfl)
set_option maxRecDepth 20000 in
theorem qX6_202 : Cond.constantLong RX6 202 (20) ∈ gtbl := gtbl_in (w := Cond.constantLong RX6 202 (20)) 433 (by rfl) (by rfl)
set_option maxRecDepth 20000 in
theorem qX6_226 : Cond.constantLong RX6 226 (60) ∈ gtbl := gtbl_in (w := Cond.constantLong RX6 226 (60)) 475 (by rfl) (by rfl)
set_option maxRecDepth 20000 in
theorem qX6_238 : Cond.constantLong RX6 238 (10) ∈ gtbl := gtbl_in (w := Cond.constantLong RX6 238 (10)) 492 (by rfl) (by rfl)
set_option maxRecDepth 20000 in
theorem qX6_240 : Cond.constantLong RX6 240 (-1000000000000000002) ∈ gtbl := gtbl_in (w := Cond.constantLong RX6 240 (-1000000000000000002)) 493 (by rfl) (by rfl)
set_option maxRecDepth 20000 in
theorem qX6_242 : Cond.constantLong RX6 242 (100) ∈ gtbl := gtbl_in (w := Cond.constantLong RX6 242 (100)) 494 (by rfl) (by rfl)
set_option maxRecDepth 20000 in
theorem qX6_252 : Cond.constantLong RX6 252 (99) ∈ gtbl := gtbl_in (w := Cond.constantLong RX6 252 (99)) 505 (by rfl) (by rfl)
set_option maxRecDepth 20000 in
theorem qX6_254 : Cond.constant RX6 254 (65537) ∈ gtbl := gtbl_in (w := Cond.constant RX6 254 (65537)) 506 (by rfl) (by rfl)
set_option maxRecDepth 20000 in
theorem qX7_126 : Cond.constantLong RX7 126 (100) ∈ gtbl := gtbl_in (w := Cond.constantLong RX7 126 (100)) 717 (by rfl) (by rfl)
set_option maxRecDepth 20000 in
theorem qX7_140 : Cond.constant RX7 140 (1000000) ∈ gtbl := gtbl_in (w := Cond.constant RX7 140 (1000000)) 749 (by rfl) (by rfl)
set_option maxRecDepth 20000 in
theorem qX7_145 : Cond.constantLong RX7 145 (-1000000000000000002) ∈ gtbl := gtbl_in (w := Cond.constantLong RX7 145 (-1000000000000000002)) 762 (by rfl) (by rfl)
set_option maxRecDepth 20000 in
theorem qX7_151 : Cond.constant RX7 151 (65537) ∈ gtbl := gtbl_in (w := Cond.constant RX7 151 (65537)) 770 (by rfl) (by rfl)
set_option maxRecDepth 20000 in
theorem qL_62 : Cond.constantLong RL 62 (4294967295) ∈ gtbl := gtbl_in (w := Cond.constantLong RL 62 (4294967295)) 783 (by rfl) (by rfl)
abbrev YX0_init : MY := (RX0, cX0_init, 2, none, none)
abbrev YX0_copyFrom : MY := (RX0, cX0_copyFrom, 3, none, none)
set_option maxRecDepth 20000 in
theorem MX0_copyFrom : MTH yX0_copyFrom YX0_copyFrom 1 := ⟨gtbl_in (w := Cond.initialized RX0) 23 (by rfl) (by rfl), gtbl_in (w := Cond.code yX0_copyFrom cX0_copyFrom 3 none) 300 (by rfl) (by rfl), by decide +kernel, by decide +kernel, rfl, rfl, by decide⟩
set_option maxRecDepth 20000 in
theorem iX0_copyFrom : Cond.instanceMethod yX0_copyFrom ∈ gtbl := gtbl_in (w := Cond.instanceMethod yX0_copyFrom) 298 (by rfl) (by rfl)
set_option maxRecDepth 20000 in
theorem vX0_copyFrom : Cond.selects yX0_copyFrom.cls yX0_copyFrom yX0_copyFrom ∈ gtbl := gtbl_in (w := Cond.selects yX0_copyFrom.cls yX0_copyFrom yX0_copyFrom) 299 (by rfl) (by rfl)
abbrev YX0_put : MY := (RX0, cX0_put, 5, none, none)
set_option maxRecDepth 20000 in
theorem MX0_put : MTH yX0_put YX0_put 4 := ⟨gtbl_in (w := Cond.initialized RX0) 23 (by rfl) (by rfl), gtbl_in (w := Cond.code yX0_put cX0_put 5 none) 237 (by rfl) (by rfl), by decide +kernel, by decide +kernel, rfl, rfl, by decide⟩
set_option maxRecDepth 20000 in
theorem iX0_put : Cond.instanceMethod yX0_put ∈ gtbl := gtbl_in (w := Cond.instanceMethod yX0_put) 235 (by rfl) (by rfl)
set_option maxRecDepth 20000 in
theorem vX0_put : Cond.selects yX0_put.cls yX0_put yX0_put ∈ gtbl := gtbl_in (w := Cond.selects yX0_put.cls yX0_put yX0_put) 236 (by rfl) (by rfl)
abbrev YX0_isAlight : MY := (RX0, cX0_isAlight, 2, (some .boolean), none)
set_option maxRecDepth 20000 in
theorem MX0_isAlight : MTH yX0_isAlight YX0_isAlight 1 := ⟨gtbl_in (w := Cond.initialized RX0) 23 (by rfl) (by rfl), gtbl_in (w := Cond.code yX0_isAlight cX0_isAlight 2 (some .boolean)) 314 (by rfl) (by rfl), by decide +kernel, by decide +kernel, rfl, rfl, by decide⟩
set_option maxRecDepth 20000 in
theorem iX0_isAlight : Cond.instanceMethod yX0_isAlight ∈ gtbl := gtbl_in (w := Cond.instanceMethod yX0_isAlight) 312 (by rfl) (by rfl)
set_option maxRecDepth 20000 in
theorem vX0_isAlight : Cond.selects yX0_isAlight.cls yX0_isAlight yX0_isAlight ∈ gtbl := gtbl_in (w := Cond.selects yX0_isAlight.cls yX0_isAlight yX0_isAlight) 313 (by rfl) (by rfl)
abbrev YX0_isTakenByAnother : MY := (RX0, cX0_isTakenByAnother, 4, (some .boolean), none)
set_option maxRecDepth 20000 in
theorem MX0_isTakenByAnother : MTH yX0_isTakenByAnother YX0_isTakenByAnother 2 := ⟨gtbl_in (w := Cond.initialized RX0) 23 (by rfl) (by rfl), gtbl_in (w := Cond.code yX0_isTakenByAnother cX0_isTakenByAnother 4 (some .boolean)) 233 (by rfl) (by rfl), by decide +kernel, by decide +kernel, rfl, rfl, by decide⟩
set_option maxRecDepth 20000 in
theorem iX0_isTakenByAnother : Cond.instanceMethod yX0_isTakenByAnother ∈ gtbl := gtbl_in (w := Cond.instanceMethod yX0_isTakenByAnother) 231 (by rfl) (by rfl)
set_option maxRecDepth 20000 in
theorem vX0_isTakenByAnother : Cond.selects yX0_isTakenByAnother.cls yX0_isTakenByAnother yX0_isTakenByAnother ∈ gtbl := gtbl_in (w := Cond.selects yX0_isTakenByAnother.cls yX0_isTakenByAnother yX0_isTakenByAnother) 232 (by rfl) (by rfl)
abbrev YX0_heatOfAll : MY := (RX0, cX0_heatOfAll, 3, (some .int), none)
set_option maxRecDepth 20000 in
theorem MX0_heatOfAll : MTH yX0_heatOfAll YX0_heatOfAll 0 := ⟨gtbl_in (w := Cond.initialized RX0) 23 (by rfl) (by rfl), gtbl_in (w := Cond.code yX0_heatOfAll cX0_heatOfAll 3 (some .int)) 518 (by rfl) (by rfl), by decide +kernel, by decide +kernel, rfl, rfl, by decide⟩
set_option maxRecDepth 20000 in
theorem iX0_heatOfAll : Cond.instanceMethod yX0_heatOfAll ∈ gtbl := gtbl_in (w := Cond.instanceMethod yX0_heatOfAll) 516 (by rfl) (by rfl)
set_option maxRecDepth 20000 in
theorem vX0_heatOfAll : Cond.selects yX0_heatOfAll.cls yX0_heatOfAll yX0_heatOfAll ∈ gtbl := gtbl_in (w := Cond.selects yX0_heatOfAll.cls yX0_heatOfAll yX0_heatOfAll) 517 (by rfl) (by rfl)
abbrev YX0_areNear : MY := (RX0, cX0_areNear, 7, (some .boolean), none)
set_option maxRecDepth 20000 in
theorem MX0_areNear : MTH yX0_areNear YX0_areNear 2 := ⟨gtbl_in (w := Cond.initialized RX0) 23 (by rfl) (by rfl), gtbl_in (w := Cond.code yX0_areNear cX0_areNear 7 (some .boolean)) 338 (by rfl) (by rfl), by decide +kernel, by decide +kernel, rfl, rfl, by decide⟩
set_option maxRecDepth 20000 in
theorem iX0_areNear : Cond.instanceMethod yX0_areNear ∈ gtbl := gtbl_in (w := Cond.instanceMethod yX0_areNear) 336 (by rfl) (by rfl)
set_option maxRecDepth 20000 in
theorem vX0_areNear : Cond.selects yX0_areNear.cls yX0_areNear yX0_areNear ∈ gtbl := gtbl_in (w := Cond.selects yX0_areNear.cls yX0_areNear yX0_areNear) 337 (by rfl) (by rfl)
abbrev YX0_countNear : MY := (RX0, cX0_countNear, 5, (some .int), none)
set_option maxRecDepth 20000 in
theorem MX0_countNear : MTH yX0_countNear YX0_countNear 2 := ⟨gtbl_in (w := Cond.initialized RX0) 23 (by rfl) (by rfl), gtbl_in (w := Cond.code yX0_countNear cX0_countNear 5 (some .int)) 334 (by rfl) (by rfl), by decide +kernel, by decide +kernel, rfl, rfl, by decide⟩
set_option maxRecDepth 20000 in
theorem iX0_countNear : Cond.instanceMethod yX0_countNear ∈ gtbl := gtbl_in (w := Cond.instanceMethod yX0_countNear) 332 (by rfl) (by rfl)
set_option maxRecDepth 20000 in
theorem vX0_countNear : Cond.selects yX0_countNear.cls yX0_countNear yX0_countNear ∈ gtbl := gtbl_in (w := Cond.selects yX0_countNear.cls yX0_countNear yX0_countNear) 333 (by rfl) (by rfl)
abbrev YX0_flaringBy : MY := (RX0, cX0_flaringBy, 7, (some .int), none)
set_option maxRecDepth 20000 in
theorem MX0_flaringBy : MTH yX0_flaringBy YX0_flaringBy 2 := ⟨gtbl_in (w := Cond.initialized RX0) 23 (by rfl) (by rfl), gtbl_in (w := Cond.code yX0_flaringBy cX0_flaringBy 7 (some .int)) 373 (by rfl) (by rfl), by decide +kernel, by decide +kernel, rfl, rfl, by decide⟩
set_option maxRecDepth 20000 in
theorem iX0_flaringBy : Cond.instanceMethod yX0_flaringBy ∈ gtbl := gtbl_in (w := Cond.instanceMethod yX0_flaringBy) 371 (by rfl) (by rfl)
set_option maxRecDepth 20000 in
theorem vX0_flaringBy : Cond.selects yX0_flaringBy.cls yX0_flaringBy yX0_flaringBy ∈ gtbl := gtbl_in (w := Cond.selects yX0_flaringBy.cls yX0_flaringBy yX0_flaringBy) 372 (by rfl) (by rfl)
abbrev YX0_canCatch : MY := (RX0, cX0_canCatch, 3, (some .boolean), none)
set_option maxRecDepth 20000 in
theorem MX0_canCatch : MTH yX0_canCatch YX0_canCatch 2 := ⟨gtbl_in (w := Cond.initialized RX0) 23 (by rfl) (by rfl), gtbl_in (w := Cond.code yX0_canCatch cX0_canCatch 3 (some .boolean)) 377 (by rfl) (by rfl), by decide +kernel, by decide +kernel, rfl, rfl, by decide⟩
set_option maxRecDepth 20000 in
theorem iX0_canCatch : Cond.instanceMethod yX0_canCatch ∈ gtbl := gtbl_in (w := Cond.instanceMethod yX0_canCatch) 375 (by rfl) (by rfl)
set_option maxRecDepth 20000 in
theorem vX0_canCatch : Cond.selects yX0_canCatch.cls yX0_canCatch yX0_canCatch ∈ gtbl := gtbl_in (w := Cond.selects yX0_canCatch.cls yX0_canCatch yX0_canCatch) 376 (by rfl) (by rfl)
abbrev YX0_reasonAgainst : MY := (RX0, cX0_reasonAgainst, 4, (some .int), none)
set_option maxRecDepth 20000 in
theorem MX0_reasonAgainst : MTH yX0_reasonAgainst YX0_reasonAgainst 3 := ⟨gtbl_in (w := Cond.initialized RX0) 23 (by rfl) (by rfl), gtbl_in (w := Cond.code yX0_reasonAgainst cX0_reasonAgainst 4 (some .int)) 309 (by rfl) (by rfl), by decide +kernel, by decide +kernel, rfl, rfl, by decide⟩
set_option maxRecDepth 20000 in
theorem iX0_reasonAgainst : Cond.instanceMethod yX0_reasonAgainst ∈ gtbl := gtbl_in (w := Cond.instanceMethod yX0_reasonAgainst) 307 (by rfl) (by rfl)
set_option maxRecDepth 20000 in
theorem vX0_reasonAgainst : Cond.selects yX0_reasonAgainst.cls yX0_reasonAgainst yX0_reasonAgainst ∈ gtbl := gtbl_in (w := Cond.selects yX0_reasonAgainst.cls yX0_reasonAgainst yX0_reasonAgainst) 308 (by rfl) (by rfl)
abbrev YX0_perform : MY := (RX0, cX0_perform, 4, (some .int), none)
set_option maxRecDepth 20000 in
theorem MX0_perform : MTH yX0_perform YX0_perform 3 := ⟨gtbl_in (w := Cond.initialized RX0) 23 (by rfl) (by rfl), gtbl_in (w := Cond.code yX0_perform cX0_perform 4 (some .int)) 322 (by rfl) (by rfl), by decide +kernel, by decide +kernel, rfl, rfl, by decide⟩
set_option maxRecDepth 20000 in
theorem iX0_perform : Cond.instanceMethod yX0_perform ∈ gtbl := gtbl_in (w := Cond.instanceMethod yX0_perform) 320 (by rfl) (by rfl)
set_option maxRecDepth 20000 in
theorem vX0_perform : Cond.selects yX0_perform.cls yX0_perform yX0_perform ∈ gtbl := gtbl_in (w := Cond.selects yX0_perform.cls yX0_perform yX0_perform) 321 (by rfl) (by rfl)
abbrev YX0_passNight : MY := (RX0, cX0_passNight, 3, (some .int), none)
set_option maxRecDepth 20000 in
theorem MX0_passNight : MTH yX0_passNight YX0_passNight 0 := ⟨gtbl_in (w := Cond.initialized RX0) 23 (by rfl) (by rfl), gtbl_in (w := Cond.code yX0_passNight cX0_passNight 3 (some .int)) 326 (by rfl) (by rfl), by decide +kernel, by decide +kernel, rfl, rfl, by decide⟩
set_option maxRecDepth 20000 in
theorem iX0_passNight : Cond.instanceMethod yX0_passNight ∈ gtbl := gtbl_in (w := Cond.instanceMethod yX0_passNight) 324 (by rfl) (by rfl)
set_option maxRecDepth 20000 in
theorem vX0_passNight : Cond.selects yX0_passNight.cls yX0_passNight yX0_passNight ∈ gtbl := gtbl_in (w := Cond.selects yX0_passNight.cls yX0_passNight yX0_passNight) 325 (by rfl) (by rfl)
abbrev YX0_smoulder : MY := (RX0, cX0_smoulder, 4, (some .boolean), none)
set_option maxRecDepth 20000 in
theorem MX0_smoulder : MTH yX0_smoulder YX0_smoulder 1 := ⟨gtbl_in (w := Cond.initialized RX0) 23 (by rfl) (by rfl), gtbl_in (w := Cond.code yX0_smoulder cX0_smoulder 4 (some .boolean)) 330 (by rfl) (by rfl), by decide +kernel, by decide +kernel, rfl, rfl, by decide⟩
set_option maxRecDepth 20000 in
theorem iX0_smoulder : Cond.instanceMethod yX0_smoulder ∈ gtbl := gtbl_in (w := Cond.instanceMethod yX0_smoulder) 328 (by rfl) (by rfl)
set_option maxRecDepth 20000 in
theorem vX0_smoulder : Cond.selects yX0_smoulder.cls yX0_smoulder yX0_smoulder ∈ gtbl := gtbl_in (w := Cond.selects yX0_smoulder.cls yX0_smoulder yX0_smoulder) 329 (by rfl) (by rfl)
abbrev YX1_init : MY := (RX1, cX1_init, 1, none, none)
abbrev YX1_readNights : MY := (RX1, cX1_readNights, 6, (some .boolean), none)
set_option maxRecDepth 20000 in
theorem MX1_readNights : MTH yX1_readNights YX1_readNights 2 := ⟨gtbl_in (w := Cond.initialized RX1) 28 (by rfl) (by rfl), gtbl_in (w := Cond.code yX1_readNights cX1_readNights 6 (some .boolean)) 395 (by rfl) (by rfl), by decide +kernel, by decide +kernel, rfl, rfl, by decide⟩
set_option maxRecDepth 20000 in
theorem iX1_readNights : Cond.instanceMethod yX1_readNights ∈ gtbl := gtbl_in (w := Cond.instanceMethod yX1_readNights) 393 (by rfl) (by rfl)
set_option maxRecDepth 20000 in
theorem vX1_readNights : Cond.selects yX1_readNights.cls yX1_readNights yX1_readNights ∈ gtbl := gtbl_in (w := Cond.selects yX1_readNights.cls yX1_readNights yX1_readNights) 394 (by rfl) (by rfl)
abbrev YX1_readDays : MY := (RX1, cX1_readDays, 7, (some .boolean), none)
set_option maxRecDepth 20000 in
theorem MX1_readDays : MTH yX1_readDays YX1_readDays 2 := ⟨gtbl_in (w := Cond.initialized RX1) 28 (by rfl) (by rfl), gtbl_in (w := Cond.code yX1_readDays cX1_readDays 7 (some .boolean)) 399 (by rfl) (by rfl), by decide +kernel, by decide +kernel, rfl, rfl, by decide⟩
set_option maxRecDepth 20000 in
theorem iX1_readDays : Cond.instanceMethod yX1_readDays ∈ gtbl := gtbl_in (w := Cond.instanceMethod yX1_readDays) 397 (by rfl) (by rfl)
set_option maxRecDepth 20000 in
theorem vX1_readDays : Cond.selects yX1_readDays.cls yX1_readDays yX1_readDays ∈ gtbl := gtbl_in (w := Cond.selects yX1_readDays.cls yX1_readDays yX1_readDays) 398 (by rfl) (by rfl)
abbrev YX1_mostInTime : MY := (RX1, cX1_mostInTime, 4, (some .int), none)
set_option maxRecDepth 20000 in
theorem MX1_mostInTime : MTH yX1_mostInTime YX1_mostInTime 1 := ⟨gtbl_in (w := Cond.initialized RX1) 28 (by rfl) (by rfl), gtbl_in (w := Cond.code yX1_mostInTime cX1_mostInTime 4 (some .int)) 404 (by rfl) (by rfl), by decide +kernel, by decide +kernel, rfl, rfl, by decide⟩
set_option maxRecDepth 20000 in
theorem iX1_mostInTime : Cond.instanceMethod yX1_mostInTime ∈ gtbl := gtbl_in (w := Cond.instanceMethod yX1_mostInTime) 402 (by rfl) (by rfl)
set_option maxRecDepth 20000 in
theorem vX1_mostInTime : Cond.selects yX1_mostInTime.cls yX1_mostInTime yX1_mostInTime ∈ gtbl := gtbl_in (w := Cond.selects yX1_mostInTime.cls yX1_mostInTime yX1_mostInTime) 403 (by rfl) (by rfl)
abbrev YX1_areInTime : MY := (RX1, cX1_areInTime, 4, (some .boolean), none)
set_option maxRecDepth 20000 in
theorem MX1_areInTime : MTH yX1_areInTime YX1_areInTime 2 := ⟨gtbl_in (w := Cond.initialized RX1) 28 (by rfl) (by rfl), gtbl_in (w := Cond.code yX1_areInTime cX1_areInTime 4 (some .boolean)) 409 (by rfl) (by rfl), by decide +kernel, by decide +kernel, rfl, rfl, by decide⟩
set_option maxRecDepth 20000 in
theorem iX1_areInTime : Cond.instanceMethod yX1_areInTime ∈ gtbl := gtbl_in (w := Cond.instanceMethod yX1_areInTime) 407 (by rfl) (by rfl)
set_option maxRecDepth 20000 in
theorem vX1_areInTime : Cond.selects yX1_areInTime.cls yX1_areInTime yX1_areInTime ∈ gtbl := gtbl_in (w := Cond.selects yX1_areInTime.cls yX1_areInTime yX1_areInTime) 408 (by rfl) (by rfl)
abbrev YX1_nightsUntil : MY := (RX1, cX1_nightsUntil, 6, (some .int), none)
set_option maxRecDepth 20000 in
theorem MX1_nightsUntil : MTH yX1_nightsUntil YX1_nightsUntil 3 := ⟨gtbl_in (w := Cond.initialized RX1) 28 (by rfl) (by rfl), gtbl_in (w := Cond.code yX1_nightsUntil cX1_nightsUntil 6 (some .int)) 414 (by rfl) (by rfl), by decide +kernel, by decide +kernel, rfl, rfl, by decide⟩
set_option maxRecDepth 20000 in
theorem iX1_nightsUntil : Cond.instanceMethod yX1_nightsUntil ∈ gtbl := gtbl_in (w := Cond.instanceMethod yX1_nightsUntil) 412 (by rfl) (by rfl)
set_option maxRecDepth 20000 in
theorem vX1_nightsUntil : Cond.selects yX1_nightsUntil.cls yX1_nightsUntil yX1_nightsUntil ∈ gtbl := gtbl_in (w := Cond.selects yX1_nightsUntil.cls yX1_nightsUntil yX1_nightsUntil) 413 (by rfl) (by rfl)
abbrev YX2_init : MY := (RX2, cX2_init, 1, none, none)
abbrev YX3_init : MY := (RX3, cX3_init, 1, none, none)
abbrev YX3_append : MY := (RX3, cX3_append, 2, (some .boolean), none)
set_option maxRecDepth 20000 in
theorem MX3_append : MTH yX3_append YX3_append 1 := ⟨gtbl_in (w := Cond.initialized RX3) 24 (by rfl) (by rfl), gtbl_in (w := Cond.code yX3_append cX3_append 2 (some .boolean)) 258 (by rfl) (by rfl), by decide +kernel, by decide +kernel, rfl, rfl, by decide⟩
set_option maxRecDepth 20000 in
theorem iX3_append : Cond.instanceMethod yX3_append ∈ gtbl := gtbl_in (w := Cond.instanceMethod yX3_append) 256 (by rfl) (by rfl)
set_option maxRecDepth 20000 in
theorem vX3_append : Cond.selects yX3_append.cls yX3_append yX3_append ∈ gtbl := gtbl_in (w := Cond.selects yX3_append.cls yX3_append yX3_append) 257 (by rfl) (by rfl)
abbrev YX3_faultPlace : MY := (RX3, cX3_faultPlace, 5, (some .int), none)
set_option maxRecDepth 20000 in
theorem MX3_faultPlace : MTH yX3_faultPlace YX3_faultPlace 0 := ⟨gtbl_in (w := Cond.initialized RX3) 24 (by rfl) (by rfl), gtbl_in (w := Cond.code yX3_faultPlace cX3_faultPlace 5 (some .int)) 270 (by rfl) (by rfl), by decide +kernel, by decide +kernel, rfl, rfl, by decide⟩
set_option maxRecDepth 20000 in
theorem iX3_faultPlace : Cond.instanceMethod yX3_faultPlace ∈ gtbl := gtbl_in (w := Cond.instanceMethod yX3_faultPlace) 268 (by rfl) (by rfl)
set_option maxRecDepth 20000 in
theorem vX3_faultPlace : Cond.selects yX3_faultPlace.cls yX3_faultPlace yX3_faultPlace ∈ gtbl := gtbl_in (w := Cond.selects yX3_faultPlace.cls yX3_faultPlace yX3_faultPlace) 269 (by rfl) (by rfl)
abbrev YX3_isHeapLetter : MY := (RX3, cX3_isHeapLetter, 1, (some .boolean), none)
set_option maxRecDepth 20000 in
theorem MX3_isHeapLetter : MTH yX3_isHeapLetter YX3_isHeapLetter 1 := ⟨gtbl_in (w := Cond.initialized RX3) 24 (by rfl) (by rfl), gtbl_in (w := Cond.code yX3_isHeapLetter cX3_isHeapLetter 1 (some .boolean)) 273 (by rfl) (by rfl), by decide +kernel, by decide +kernel, rfl, rfl, by decide⟩
set_option maxRecDepth 20000 in
theorem sX3_isHeapLetter : Cond.static yX3_isHeapLetter ∈ gtbl := gtbl_in (w := Cond.static yX3_isHeapLetter) 272 (by rfl) (by rfl)
abbrev YX3_isCellLetter : MY := (RX3, cX3_isCellLetter, 1, (some .boolean), none)
set_option maxRecDepth 20000 in
theorem MX3_isCellLetter : MTH yX3_isCellLetter YX3_isCellLetter 1 := ⟨gtbl_in (w := Cond.initialized RX3) 24 (by rfl) (by rfl), gtbl_in (w := Cond.code yX3_isCellLetter cX3_isCellLetter 1 (some .boolean)) 282 (by rfl) (by rfl), by decide +kernel, by decide +kernel, rfl, rfl, by decide⟩
set_option maxRecDepth 20000 in
theorem sX3_isCellLetter : Cond.static yX3_isCellLetter ∈ gtbl := gtbl_in (w := Cond.static yX3_isCellLetter) 281 (by rfl) (by rfl)
abbrev YX3_isDeed : MY := (RX3, cX3_isDeed, 1, (some .boolean), none)
set_option maxRecDepth 20000 in
theorem MX3_isDeed : MTH yX3_isDeed YX3_isDeed 1 := ⟨gtbl_in (w := Cond.initialized RX3) 24 (by rfl) (by rfl), gtbl_in (w := Cond.code yX3_isDeed cX3_isDeed 1 (some .boolean)) 279 (by rfl) (by rfl), by decide +kernel, by decide +kernel, rfl, rfl, by decide⟩
set_option maxRecDepth 20000 in
theorem sX3_isDeed : Cond.static yX3_isDeed ∈ gtbl := gtbl_in (w := Cond.static yX3_isDeed) 278 (by rfl) (by rfl)
abbrev YX3_kindOf : MY := (RX3, cX3_kindOf, 1, (some .int), none)
set_option maxRecDepth 20000 in
theorem MX3_kindOf : MTH yX3_kindOf YX3_kindOf 1 := ⟨gtbl_in (w := Cond.initialized RX3) 24 (by rfl) (by rfl), gtbl_in (w := Cond.code yX3_kindOf cX3_kindOf 1 (some .int)) 305 (by rfl) (by rfl), by decide +kernel, by decide +kernel, rfl, rfl, by decide⟩
set_option maxRecDepth 20000 in
theorem sX3_kindOf : Cond.static yX3_kindOf ∈ gtbl := gtbl_in (w := Cond.static yX3_kindOf) 304 (by rfl) (by rfl)
abbrev YX4_init : MY := (RX4, cX4_init, 1, none, none)
abbrev YX4_copyFrom : MY := (RX4, cX4_copyFrom, 3, none, none)
set_option maxRecDepth 20000 in
theorem MX4_copyFrom : MTH yX4_copyFrom YX4_copyFrom 1 := ⟨gtbl_in (w := Cond.initialized RX4) 25 (by rfl) (by rfl), gtbl_in (w := Cond.code yX4_copyFrom cX4_copyFrom 3 none) 526 (by rfl) (by rfl), by decide +kernel, by decide +kernel, rfl, rfl, by decide⟩
set_option maxRecDepth 20000 in
theorem iX4_copyFrom : Cond.instanceMethod yX4_copyFrom ∈ gtbl := gtbl_in (w := Cond.instanceMethod yX4_copyFrom) 524 (by rfl) (by rfl)
set_option maxRecDepth 20000 in
theorem vX4_copyFrom : Cond.selects yX4_copyFrom.cls yX4_copyFrom yX4_copyFrom ∈ gtbl := gtbl_in (w := Cond.selects yX4_copyFrom.cls yX4_copyFrom yX4_copyFrom) 525 (by rfl) (by rfl)
abbrev YX4_append : MY := (RX4, cX4_append, 3, (some .boolean), none)
set_option maxRecDepth 20000 in
theorem MX4_append : MTH yX4_append YX4_append 2 := ⟨gtbl_in (w := Cond.initialized RX4) 25 (by rfl) (by rfl), gtbl_in (w := Cond.code yX4_append cX4_append 3 (some .boolean)) 437 (by rfl) (by rfl), by decide +kernel, by decide +kernel, rfl, rfl, by decide⟩
set_option maxRecDepth 20000 in
theorem iX4_append : Cond.instanceMethod yX4_append ∈ gtbl := gtbl_in (w := Cond.instanceMethod yX4_append) 435 (by rfl) (by rfl)
set_option maxRecDepth 20000 in
theorem vX4_append : Cond.selects yX4_append.cls yX4_append yX4_append ∈ gtbl := gtbl_in (w := Cond.selects yX4_append.cls yX4_append yX4_append) 436 (by rfl) (by rfl)
abbrev YX4_fit : MY := (RX4, cX4_fit, 4, (some .boolean), none)
set_option maxRecDepth 20000 in
theorem MX4_fit : MTH yX4_fit YX4_fit 2 := ⟨gtbl_in (w := Cond.initialized RX4) 25 (by rfl) (by rfl), gtbl_in (w := Cond.code yX4_fit cX4_fit 4 (some .boolean)) 453 (by rfl) (by rfl), by decide +kernel, by decide +kernel, rfl, rfl, by decide⟩
set_option maxRecDepth 20000 in
theorem iX4_fit : Cond.instanceMethod yX4_fit ∈ gtbl := gtbl_in (w := Cond.instanceMethod yX4_fit) 451 (by rfl) (by rfl)
set_option maxRecDepth 20000 in
theorem vX4_fit : Cond.selects yX4_fit.cls yX4_fit yX4_fit ∈ gtbl := gtbl_in (w := Cond.selects yX4_fit.cls yX4_fit yX4_fit) 452 (by rfl) (by rfl)
abbrev YX4_listFitting : MY := (RX4, cX4_listFitting, 5, (some .int), none)
set_option maxRecDepth 20000 in
theorem MX4_listFitting : MTH yX4_listFitting YX4_listFitting 1 := ⟨gtbl_in (w := Cond.initialized RX4) 25 (by rfl) (by rfl), gtbl_in (w := Cond.code yX4_listFitting cX4_listFitting 5 (some .int)) 449 (by rfl) (by rfl), by decide +kernel, by decide +kernel, rfl, rfl, by decide⟩
set_option maxRecDepth 20000 in
theorem iX4_listFitting : Cond.instanceMethod yX4_listFitting ∈ gtbl := gtbl_in (w := Cond.instanceMethod yX4_listFitting) 447 (by rfl) (by rfl)
set_option maxRecDepth 20000 in
theorem vX4_listFitting : Cond.selects yX4_listFitting.cls yX4_listFitting yX4_listFitting ∈ gtbl := gtbl_in (w := Cond.selects yX4_listFitting.cls yX4_listFitting yX4_listFitting) 448 (by rfl) (by rfl)
abbrev YX5_init : MY := (RX5, cX5_init, 1, none, none)
abbrev YX5_tryOut : MY := (RX5, cX5_tryOut, 9, (some .boolean), none)
set_option maxRecDepth 20000 in
theorem MX5_tryOut : MTH yX5_tryOut YX5_tryOut 2 := ⟨gtbl_in (w := Cond.initialized RX5) 27 (by rfl) (by rfl), gtbl_in (w := Cond.code yX5_tryOut cX5_tryOut 9 (some .boolean)) 292 (by rfl) (by rfl), by decide +kernel, by decide +kernel, rfl, rfl, by decide⟩
set_option maxRecDepth 20000 in
theorem iX5_tryOut : Cond.instanceMethod yX5_tryOut ∈ gtbl := gtbl_in (w := Cond.instanceMethod yX5_tryOut) 290 (by rfl) (by rfl)
set_option maxRecDepth 20000 in
theorem vX5_tryOut : Cond.selects yX5_tryOut.cls yX5_tryOut yX5_tryOut ∈ gtbl := gtbl_in (w := Cond.selects yX5_tryOut.cls yX5_tryOut yX5_tryOut) 291 (by rfl) (by rfl)
abbrev YX5_begin : MY := (RX5, cX5_begin, 2, none, none)
set_option maxRecDepth 20000 in
theorem MX5_begin : MTH yX5_begin YX5_begin 1 := ⟨gtbl_in (w := Cond.initialized RX5) 27 (by rfl) (by rfl), gtbl_in (w := Cond.code yX5_begin cX5_begin 2 none) 296 (by rfl) (by rfl), by decide +kernel, by decide +kernel, rfl, rfl, by decide⟩
set_option maxRecDepth 20000 in
theorem iX5_begin : Cond.instanceMethod yX5_begin ∈ gtbl := gtbl_in (w := Cond.instanceMethod yX5_begin) 294 (by rfl) (by rfl)
set_option maxRecDepth 20000 in
theorem vX5_begin : Cond.selects yX5_begin.cls yX5_begin yX5_begin ∈ gtbl := gtbl_in (w := Cond.selects yX5_begin.cls yX5_begin yX5_begin) 295 (by rfl) (by rfl)
abbrev YX5_noteFlares : MY := (RX5, cX5_noteFlares, 3, none, none)
set_option maxRecDepth 20000 in
theorem MX5_noteFlares : MTH yX5_noteFlares YX5_noteFlares 1 := ⟨gtbl_in (w := Cond.initialized RX5) 27 (by rfl) (by rfl), gtbl_in (w := Cond.code yX5_noteFlares cX5_noteFlares 3 none) 348 (by rfl) (by rfl), by decide +kernel, by decide +kernel, rfl, rfl, by decide⟩
set_option maxRecDepth 20000 in
theorem iX5_noteFlares : Cond.instanceMethod yX5_noteFlares ∈ gtbl := gtbl_in (w := Cond.instanceMethod yX5_noteFlares) 346 (by rfl) (by rfl)
set_option maxRecDepth 20000 in
theorem vX5_noteFlares : Cond.selects yX5_noteFlares.cls yX5_noteFlares yX5_noteFlares ∈ gtbl := gtbl_in (w := Cond.selects yX5_noteFlares.cls yX5_noteFlares yX5_noteFlares) 347 (by rfl) (by rfl)
abbrev YX6_init : MY := (RX6, cX6_init, 1, none, none)
abbrev YX6_heap : MY := (RX6, cX6_heap, 7, (some .int), none)
set_option maxRecDepth 20000 in
theorem MX6_heap : MTH yX6_heap YX6_heap 4 := ⟨gtbl_in (w := Cond.initialized RX6) 22 (by rfl) (by rfl), gtbl_in (w := Cond.code yX6_heap cX6_heap 7 (some .int)) 219 (by rfl) (by rfl), by decide +kernel, by decide +kernel, rfl, rfl, by decide⟩
set_option maxRecDepth 20000 in
theorem iX6_heap : Cond.instanceMethod yX6_heap ∈ gtbl := gtbl_in (w := Cond.instanceMethod yX6_heap) 217 (by rfl) (by rfl)
set_option maxRecDepth 20000 in
theorem vX6_heap : Cond.selects yX6_heap.cls yX6_heap yX6_heap ∈ gtbl := gtbl_in (w := Cond.selects yX6_heap.cls yX6_heap yX6_heap) 218 (by rfl) (by rfl)
abbrev YX6_burners : MY := (RX6, cX6_burners, 3, (some .int), none)
set_option maxRecDepth 20000 in
theorem MX6_burners : MTH yX6_burners YX6_burners 1 := ⟨gtbl_in (w := Cond.initialized RX6) 22 (by rfl) (by rfl), gtbl_in (w := Cond.code yX6_burners cX6_burners 3 (some .int)) 241 (by rfl) (by rfl), by decide +kernel, by decide +kernel, rfl, rfl, by decide⟩
set_option maxRecDepth 20000 in
theorem iX6_burners : Cond.instanceMethod yX6_burners ∈ gtbl := gtbl_in (w := Cond.instanceMethod yX6_burners) 239 (by rfl) (by rfl)
set_option maxRecDepth 20000 in
theorem vX6_burners : Cond.selects yX6_burners.cls yX6_burners yX6_burners ∈ gtbl := gtbl_in (w := Cond.selects yX6_burners.cls yX6_burners yX6_burners) 240 (by rfl) (by rfl)
abbrev YX6_say : MY := (RX6, cX6_say, 2, (some .int), none)
set_option maxRecDepth 20000 in
theorem MX6_say : MTH yX6_say YX6_say 1 := ⟨gtbl_in (w := Cond.initialized RX6) 22 (by rfl) (by rfl), gtbl_in (w := Cond.code yX6_say cX6_say 2 (some .int)) 252 (by rfl) (by rfl), by decide +kernel, by decide +kernel, rfl, rfl, by decide⟩
set_option maxRecDepth 20000 in
theorem iX6_say : Cond.instanceMethod yX6_say ∈ gtbl := gtbl_in (w := Cond.instanceMethod yX6_say) 250 (by rfl) (by rfl)
set_option maxRecDepth 20000 in
theorem vX6_say : Cond.selects yX6_say.cls yX6_say yX6_say ∈ gtbl := gtbl_in (w := Cond.selects yX6_say.cls yX6_say yX6_say) 251 (by rfl) (by rfl)
abbrev YX6_wipe : MY := (RX6, cX6_wipe, 2, (some .int), none)
set_option maxRecDepth 20000 in
theorem MX6_wipe : MTH yX6_wipe YX6_wipe 0 := ⟨gtbl_in (w := Cond.initialized RX6) 22 (by rfl) (by rfl), gtbl_in (w := Cond.code yX6_wipe cX6_wipe 2 (some .int)) 262 (by rfl) (by rfl), by decide +kernel, by decide +kernel, rfl, rfl, by decide⟩
set_option maxRecDepth 20000 in
theorem iX6_wipe : Cond.instanceMethod yX6_wipe ∈ gtbl := gtbl_in (w := Cond.instanceMethod yX6_wipe) 260 (by rfl) (by rfl)
set_option maxRecDepth 20000 in
theorem vX6_wipe : Cond.selects yX6_wipe.cls yX6_wipe yX6_wipe ∈ gtbl := gtbl_in (w := Cond.selects yX6_wipe.cls yX6_wipe yX6_wipe) 261 (by rfl) (by rfl)
abbrev YX6_fault : MY := (RX6, cX6_fault, 1, (some .int), none)
set_option maxRecDepth 20000 in
theorem MX6_fault : MTH yX6_fault YX6_fault 0 := ⟨gtbl_in (w := Cond.initialized RX6) 22 (by rfl) (by rfl), gtbl_in (w := Cond.code yX6_fault cX6_fault 1 (some .int)) 266 (by rfl) (by rfl), by decide +kernel, by decide +kernel, rfl, rfl, by decide⟩
set_option maxRecDepth 20000 in
theorem iX6_fault : Cond.instanceMethod yX6_fault ∈ gtbl := gtbl_in (w := Cond.instanceMethod yX6_fault) 264 (by rfl) (by rfl)
set_option maxRecDepth 20000 in
theorem vX6_fault : Cond.selects yX6_fault.cls yX6_fault yX6_fault ∈ gtbl := gtbl_in (w := Cond.selects yX6_fault.cls yX6_fault yX6_fault) 265 (by rfl) (by rfl)
abbrev YX6_judge : MY := (RX6, cX6_judge, 2, (some .int), none)
set_option maxRecDepth 20000 in
theorem MX6_judge : MTH yX6_judge YX6_judge 1 := ⟨gtbl_in (w := Cond.initialized RX6) 22 (by rfl) (by rfl), gtbl_in (w := Cond.code yX6_judge cX6_judge 2 (some .int)) 288 (by rfl) (by rfl), by decide +kernel, by decide +kernel, rfl, rfl, by decide⟩
set_option maxRecDepth 20000 in
theorem iX6_judge : Cond.instanceMethod yX6_judge ∈ gtbl := gtbl_in (w := Cond.instanceMethod yX6_judge) 286 (by rfl) (by rfl)
set_option maxRecDepth 20000 in
theorem vX6_judge : Cond.selects yX6_judge.cls yX6_judge yX6_judge ∈ gtbl := gtbl_in (w := Cond.selects yX6_judge.cls yX6_judge yX6_judge) 287 (by rfl) (by rfl)
abbrev YX6_done : MY := (RX6, cX6_done, 1, (some .int), none)
set_option maxRecDepth 20000 in
theorem MX6_done : MTH yX6_done YX6_done 0 := ⟨gtbl_in (w := Cond.initialized RX6) 22 (by rfl) (by rfl), gtbl_in (w := Cond.code yX6_done cX6_done 1 (some .int)) 354 (by rfl) (by rfl), by decide +kernel, by decide +kernel, rfl, rfl, by decide⟩
set_option maxRecDepth 20000 in
theorem iX6_done : Cond.instanceMethod yX6_done ∈ gtbl := gtbl_in (w := Cond.instanceMethod yX6_done) 352 (by rfl) (by rfl)
set_option maxRecDepth 20000 in
theorem vX6_done : Cond.selects yX6_done.cls yX6_done yX6_done ∈ gtbl := gtbl_in (w := Cond.selects yX6_done.cls yX6_done yX6_done) 353 (by rfl) (by rfl)
abbrev YX6_behind : MY := (RX6, cX6_behind, 3, (some .int), none)
set_option maxRecDepth 20000 in
theorem MX6_behind : MTH yX6_behind YX6_behind 2 := ⟨gtbl_in (w := Cond.initialized RX6) 22 (by rfl) (by rfl), gtbl_in (w := Cond.code yX6_behind cX6_behind 3 (some .int)) 359 (by rfl) (by rfl), by decide +kernel, by decide +kernel, rfl, rfl, by decide⟩
set_option maxRecDepth 20000 in
theorem iX6_behind : Cond.instanceMethod yX6_behind ∈ gtbl := gtbl_in (w := Cond.instanceMethod yX6_behind) 357 (by rfl) (by rfl)
set_option maxRecDepth 20000 in
theorem vX6_behind : Cond.selects yX6_behind.cls yX6_behind yX6_behind ∈ gtbl := gtbl_in (w := Cond.selects yX6_behind.cls yX6_behind yX6_behind) 358 (by rfl) (by rfl)
abbrev YX6_then : MY := (RX6, cX6_then, 2, (some .int), none)
set_option maxRecDepth 20000 in
theorem MX6_then : MTH yX6_then YX6_then 1 := ⟨gtbl_in (w := Cond.initialized RX6) 22 (by rfl) (by rfl), gtbl_in (w := Cond.code yX6_then cX6_then 2 (some .int)) 364 (by rfl) (by rfl), by decide +kernel, by decide +kernel, rfl, rfl, by decide⟩
set_option maxRecDepth 20000 in
theorem iX6_then : Cond.instanceMethod yX6_then ∈ gtbl := gtbl_in (w := Cond.instanceMethod yX6_then) 362 (by rfl) (by rfl)
set_option maxRecDepth 20000 in
theorem vX6_then : Cond.selects yX6_then.cls yX6_then yX6_then ∈ gtbl := gtbl_in (w := Cond.selects yX6_then.cls yX6_then yX6_then) 363 (by rfl) (by rfl)
abbrev YX6_chain : MY := (RX6, cX6_chain, 2, (some .int), none)
set_option maxRecDepth 20000 in
theorem MX6_chain : MTH yX6_chain YX6_chain 1 := ⟨gtbl_in (w := Cond.initialized RX6) 22 (by rfl) (by rfl), gtbl_in (w := Cond.code yX6_chain cX6_chain 2 (some .int)) 368 (by rfl) (by rfl), by decide +kernel, by decide +kernel, rfl, rfl, by decide⟩
set_option maxRecDepth 20000 in
theorem iX6_chain : Cond.instanceMethod yX6_chain ∈ gtbl := gtbl_in (w := Cond.instanceMethod yX6_chain) 366 (by rfl) (by rfl)
set_option maxRecDepth 20000 in
theorem vX6_chain : Cond.selects yX6_chain.cls yX6_chain yX6_chain ∈ gtbl := gtbl_in (w := Cond.selects yX6_chain.cls yX6_chain yX6_chain) 367 (by rfl) (by rfl)
abbrev YX6_cover : MY := (RX6, cX6_cover, 5, (some .int), none)
set_option maxRecDepth 20000 in
theorem MX6_cover : MTH yX6_cover YX6_cover 3 := ⟨gtbl_in (w := Cond.initialized RX6) 22 (by rfl) (by rfl), gtbl_in (w := Cond.code yX6_cover cX6_cover 5 (some .int)) 381 (by rfl) (by rfl), by decide +kernel, by decide +kernel, rfl, rfl, by decide⟩
set_option maxRecDepth 20000 in
theorem iX6_cover : Cond.instanceMethod yX6_cover ∈ gtbl := gtbl_in (w := Cond.instanceMethod yX6_cover) 379 (by rfl) (by rfl)
set_option maxRecDepth 20000 in
theorem vX6_cover : Cond.selects yX6_cover.cls yX6_cover yX6_cover ∈ gtbl := gtbl_in (w := Cond.selects yX6_cover.cls yX6_cover yX6_cover) 380 (by rfl) (by rfl)
abbrev YX6_fewestCovered : MY := (RX6, cX6_fewestCovered, 8, (some .int), none)
set_option maxRecDepth 20000 in
theorem MX6_fewestCovered : MTH yX6_fewestCovered YX6_fewestCovered 2 := ⟨gtbl_in (w := Cond.initialized RX6) 22 (by rfl) (by rfl), gtbl_in (w := Cond.code yX6_fewestCovered cX6_fewestCovered 8 (some .int)) 385 (by rfl) (by rfl), by decide +kernel, by decide +kernel, rfl, rfl, by decide⟩
set_option maxRecDepth 20000 in
theorem iX6_fewestCovered : Cond.instanceMethod yX6_fewestCovered ∈ gtbl := gtbl_in (w := Cond.instanceMethod yX6_fewestCovered) 384 (by rfl) (by rfl)
set_option maxRecDepth 20000 in
theorem vX6_fewestCovered : Cond.selects yX6_fewestCovered.cls yX6_fewestCovered yX6_fewestCovered ∈ gtbl := gtbl_in (w := Cond.selects yX6_fewestCovered.cls yX6_fewestCovered yX6_fewestCovered) 0 (by rfl) (by rfl)
abbrev YX6_due : MY := (RX6, cX6_due, 7, (some .int), none)
set_option maxRecDepth 20000 in
theorem MX6_due : MTH yX6_due YX6_due 4 := ⟨gtbl_in (w := Cond.initialized RX6) 22 (by rfl) (by rfl), gtbl_in (w := Cond.code yX6_due cX6_due 7 (some .int)) 390 (by rfl) (by rfl), by decide +kernel, by decide +kernel, rfl, rfl, by decide⟩
set_option maxRecDepth 20000 in
theorem iX6_due : Cond.instanceMethod yX6_due ∈ gtbl := gtbl_in (w := Cond.instanceMethod yX6_due) 388 (by rfl) (by rfl)
set_option maxRecDepth 20000 in
theorem vX6_due : Cond.selects yX6_due.cls yX6_due yX6_due ∈ gtbl := gtbl_in (w := Cond.selects yX6_due.cls yX6_due yX6_due) 389 (by rfl) (by rfl)
abbrev YX6_nods : MY := (RX6, cX6_nods, 9, (some .int), none)
set_option maxRecDepth 20000 in
theorem MX6_nods : MTH yX6_nods YX6_nods 6 := ⟨gtbl_in (w := Cond.initialized RX6) 22 (by rfl) (by rfl), gtbl_in (w := Cond.code yX6_nods cX6_nods 9 (some .int)) 418 (by rfl) (by rfl), by decide +kernel, by decide +kernel, rfl, rfl, by decide⟩
set_option maxRecDepth 20000 in
theorem iX6_nods : Cond.instanceMethod yX6_nods ∈ gtbl := gtbl_in (w := Cond.instanceMethod yX6_nods) 416 (by rfl) (by rfl)
set_option maxRecDepth 20000 in
theorem vX6_nods : Cond.selects yX6_nods.cls yX6_nods yX6_nods ∈ gtbl := gtbl_in (w := Cond.selects yX6_nods.cls yX6_nods yX6_nods) 417 (by rfl) (by rfl)
abbrev YX6_nightsAsleep : MY := (RX6, cX6_nightsAsleep, 7, (some .int), none)
set_option maxRecDepth 20000 in
theorem MX6_nightsAsleep : MTH yX6_nightsAsleep YX6_nightsAsleep 5 := ⟨gtbl_in (w := Cond.initialized RX6) 22 (by rfl) (by rfl), gtbl_in (w := Cond.code yX6_nightsAsleep cX6_nightsAsleep 7 (some .int)) 428 (by rfl) (by rfl), by decide +kernel, by decide +kernel, rfl, rfl, by decide⟩
set_option maxRecDepth 20000 in
theorem sX6_nightsAsleep : Cond.static yX6_nightsAsleep ∈ gtbl := gtbl_in (w := Cond.static yX6_nightsAsleep) 427 (by rfl) (by rfl)
abbrev YX6_firstNightAsleep : MY := (RX6, cX6_firstNightAsleep, 6, (some .int), none)
set_option maxRecDepth 20000 in
theorem MX6_firstNightAsleep : MTH yX6_firstNightAsleep YX6_firstNightAsleep 5 := ⟨gtbl_in (w := Cond.initialized RX6) 22 (by rfl) (by rfl), gtbl_in (w := Cond.code yX6_firstNightAsleep cX6_firstNightAsleep 6 (some .int)) 422 (by rfl) (by rfl), by decide +kernel, by decide +kernel, rfl, rfl, by decide⟩
set_option maxRecDepth 20000 in
theorem sX6_firstNightAsleep : Cond.static yX6_firstNightAsleep ∈ gtbl := gtbl_in (w := Cond.static yX6_firstNightAsleep) 421 (by rfl) (by rfl)
abbrev YX6_isAsleep : MY := (RX6, cX6_isAsleep, 4, (some .boolean), none)
set_option maxRecDepth 20000 in
theorem MX6_isAsleep : MTH yX6_isAsleep YX6_isAsleep 3 := ⟨gtbl_in (w := Cond.initialized RX6) 22 (by rfl) (by rfl), gtbl_in (w := Cond.code yX6_isAsleep cX6_isAsleep 4 (some .boolean)) 425 (by rfl) (by rfl), by decide +kernel, by decide +kernel, rfl, rfl, by decide⟩
set_option maxRecDepth 20000 in
theorem sX6_isAsleep : Cond.static yX6_isAsleep ∈ gtbl := gtbl_in (w := Cond.static yX6_isAsleep) 424 (by rfl) (by rfl)
abbrev YX6_seen : MY := (RX6, cX6_seen, 3, (some .int), none)
set_option maxRecDepth 20000 in
theorem MX6_seen : MTH yX6_seen YX6_seen 2 := ⟨gtbl_in (w := Cond.initialized RX6) 22 (by rfl) (by rfl), gtbl_in (w := Cond.code yX6_seen cX6_seen 3 (some .int)) 432 (by rfl) (by rfl), by decide +kernel, by decide +kernel, rfl, rfl, by decide⟩
set_option maxRecDepth 20000 in
theorem iX6_seen : Cond.instanceMethod yX6_seen ∈ gtbl := gtbl_in (w := Cond.instanceMethod yX6_seen) 430 (by rfl) (by rfl)
set_option maxRecDepth 20000 in
theorem vX6_seen : Cond.selects yX6_seen.cls yX6_seen yX6_seen ∈ gtbl := gtbl_in (w := Cond.selects yX6_seen.cls yX6_seen yX6_seen) 431 (by rfl) (by rfl)
abbrev YX6_forget : MY := (RX6, cX6_forget, 2, (some .int), none)
set_option maxRecDepth 20000 in
theorem MX6_forget : MTH yX6_forget YX6_forget 0 := ⟨gtbl_in (w := Cond.initialized RX6) 22 (by rfl) (by rfl), gtbl_in (w := Cond.code yX6_forget cX6_forget 2 (some .int)) 441 (by rfl) (by rfl), by decide +kernel, by decide +kernel, rfl, rfl, by decide⟩
set_option maxRecDepth 20000 in
theorem iX6_forget : Cond.instanceMethod yX6_forget ∈ gtbl := gtbl_in (w := Cond.instanceMethod yX6_forget) 439 (by rfl) (by rfl)
set_option maxRecDepth 20000 in
theorem vX6_forget : Cond.selects yX6_forget.cls yX6_forget yX6_forget ∈ gtbl := gtbl_in (w := Cond.selects yX6_forget.cls yX6_forget yX6_forget) 440 (by rfl) (by rfl)
abbrev YX6_matter : MY := (RX6, cX6_matter, 3, (some .int), none)
set_option maxRecDepth 20000 in
theorem MX6_matter : MTH yX6_matter YX6_matter 1 := ⟨gtbl_in (w := Cond.initialized RX6) 22 (by rfl) (by rfl), gtbl_in (w := Cond.code yX6_matter cX6_matter 3 (some .int)) 445 (by rfl) (by rfl), by decide +kernel, by decide +kernel, rfl, rfl, by decide⟩
set_option maxRecDepth 20000 in
theorem iX6_matter : Cond.instanceMethod yX6_matter ∈ gtbl := gtbl_in (w := Cond.instanceMethod yX6_matter) 443 (by rfl) (by rfl)
set_option maxRecDepth 20000 in
theorem vX6_matter : Cond.selects yX6_matter.cls yX6_matter yX6_matter ∈ gtbl := gtbl_in (w := Cond.selects yX6_matter.cls yX6_matter yX6_matter) 444 (by rfl) (by rfl)
abbrev YX6_ask : MY := (RX6, cX6_ask, 7, (some .int), none)
set_option maxRecDepth 20000 in
theorem MX6_ask : MTH yX6_ask YX6_ask 1 := ⟨gtbl_in (w := Cond.initialized RX6) 22 (by rfl) (by rfl), gtbl_in (w := Cond.code yX6_ask cX6_ask 7 (some .int)) 460 (by rfl) (by rfl), by decide +kernel, by decide +kernel, rfl, rfl, by decide⟩
set_option maxRecDepth 20000 in
theorem iX6_ask : Cond.instanceMethod yX6_ask ∈ gtbl := gtbl_in (w := Cond.instanceMethod yX6_ask) 458 (by rfl) (by rfl)
set_option maxRecDepth 20000 in
theorem vX6_ask : Cond.selects yX6_ask.cls yX6_ask yX6_ask ∈ gtbl := gtbl_in (w := Cond.selects yX6_ask.cls yX6_ask yX6_ask) 459 (by rfl) (by rfl)
abbrev YX6_mostLeft : MY := (RX6, cX6_mostLeft, 5, (some .int), none)
set_option maxRecDepth 20000 in
theorem MX6_mostLeft : MTH yX6_mostLeft YX6_mostLeft 2 := ⟨gtbl_in (w := Cond.initialized RX6) 22 (by rfl) (by rfl), gtbl_in (w := Cond.code yX6_mostLeft cX6_mostLeft 5 (some .int)) 464 (by rfl) (by rfl), by decide +kernel, by decide +kernel, rfl, rfl, by decide⟩
set_option maxRecDepth 20000 in
theorem iX6_mostLeft : Cond.instanceMethod yX6_mostLeft ∈ gtbl := gtbl_in (w := Cond.instanceMethod yX6_mostLeft) 463 (by rfl) (by rfl)
set_option maxRecDepth 20000 in
theorem vX6_mostLeft : Cond.selects yX6_mostLeft.cls yX6_mostLeft yX6_mostLeft ∈ gtbl := gtbl_in (w := Cond.selects yX6_mostLeft.cls yX6_mostLeft yX6_mostLeft) 1 (by rfl) (by rfl)
abbrev YX6_countLeft : MY := (RX6, cX6_countLeft, 6, (some .int), none)
set_option maxRecDepth 20000 in
theorem MX6_countLeft : MTH yX6_countLeft YX6_countLeft 3 := ⟨gtbl_in (w := Cond.initialized RX6) 22 (by rfl) (by rfl), gtbl_in (w := Cond.code yX6_countLeft cX6_countLeft 6 (some .int)) 468 (by rfl) (by rfl), by decide +kernel, by decide +kernel, rfl, rfl, by decide⟩
set_option maxRecDepth 20000 in
theorem iX6_countLeft : Cond.instanceMethod yX6_countLeft ∈ gtbl := gtbl_in (w := Cond.instanceMethod yX6_countLeft) 467 (by rfl) (by rfl)
set_option maxRecDepth 20000 in
theorem vX6_countLeft : Cond.selects yX6_countLeft.cls yX6_countLeft yX6_countLeft ∈ gtbl := gtbl_in (w := Cond.selects yX6_countLeft.cls yX6_countLeft yX6_countLeft) 2 (by rfl) (by rfl)
abbrev YX6_colourOf : MY := (RX6, cX6_colourOf, 3, (some .int), none)
set_option maxRecDepth 20000 in
theorem MX6_colourOf : MTH yX6_colourOf YX6_colourOf 3 := ⟨gtbl_in (w := Cond.initialized RX6) 22 (by rfl) (by rfl), gtbl_in (w := Cond.code yX6_colourOf cX6_colourOf 3 (some .int)) 456 (by rfl) (by rfl), by decide +kernel, by decide +kernel, rfl, rfl, by decide⟩
set_option maxRecDepth 20000 in
theorem sX6_colourOf : Cond.static yX6_colourOf ∈ gtbl := gtbl_in (w := Cond.static yX6_colourOf) 455 (by rfl) (by rfl)
abbrev YX6_takes : MY := (RX6, cX6_takes, 4, (some .int), none)
set_option maxRecDepth 20000 in
theorem MX6_takes : MTH yX6_takes YX6_takes 2 := ⟨gtbl_in (w := Cond.initialized RX6) 22 (by rfl) (by rfl), gtbl_in (w := Cond.code yX6_takes cX6_takes 4 (some .int)) 474 (by rfl) (by rfl), by decide +kernel, by decide +kernel, rfl, rfl, by decide⟩
set_option maxRecDepth 20000 in
theorem iX6_takes : Cond.instanceMethod yX6_takes ∈ gtbl := gtbl_in (w := Cond.instanceMethod yX6_takes) 472 (by rfl) (by rfl)
set_option maxRecDepth 20000 in
theorem vX6_takes : Cond.selects yX6_takes.cls yX6_takes yX6_takes ∈ gtbl := gtbl_in (w := Cond.selects yX6_takes.cls yX6_takes yX6_takes) 473 (by rfl) (by rfl)
abbrev YX6_winningTake : MY := (RX6, cX6_winningTake, 4, (some .int), none)
set_option maxRecDepth 20000 in
theorem MX6_winningTake : MTH yX6_winningTake YX6_winningTake 1 := ⟨gtbl_in (w := Cond.initialized RX6) 22 (by rfl) (by rfl), gtbl_in (w := Cond.code yX6_winningTake cX6_winningTake 4 (some .int)) 487 (by rfl) (by rfl), by decide +kernel, by decide +kernel, rfl, rfl, by decide⟩
set_option maxRecDepth 20000 in
theorem iX6_winningTake : Cond.instanceMethod yX6_winningTake ∈ gtbl := gtbl_in (w := Cond.instanceMethod yX6_winningTake) 486 (by rfl) (by rfl)
set_option maxRecDepth 20000 in
theorem vX6_winningTake : Cond.selects yX6_winningTake.cls yX6_winningTake yX6_winningTake ∈ gtbl := gtbl_in (w := Cond.selects yX6_winningTake.cls yX6_winningTake yX6_winningTake) 5 (by rfl) (by rfl)
abbrev YX6_learnRowValues : MY := (RX6, cX6_learnRowValues, 3, none, none)
set_option maxRecDepth 20000 in
theorem MX6_learnRowValues : MTH yX6_learnRowValues YX6_learnRowValues 1 := ⟨gtbl_in (w := Cond.initialized RX6) 22 (by rfl) (by rfl), gtbl_in (w := Cond.code yX6_learnRowValues cX6_learnRowValues 3 none) 479 (by rfl) (by rfl), by decide +kernel, by decide +kernel, rfl, rfl, by decide⟩
set_option maxRecDepth 20000 in
theorem iX6_learnRowValues : Cond.instanceMethod yX6_learnRowValues ∈ gtbl := gtbl_in (w := Cond.instanceMethod yX6_learnRowValues) 478 (by rfl) (by rfl)
set_option maxRecDepth 20000 in
theorem vX6_learnRowValues : Cond.selects yX6_learnRowValues.cls yX6_learnRowValues yX6_learnRowValues ∈ gtbl := gtbl_in (w := Cond.selects yX6_learnRowValues.cls yX6_learnRowValues yX6_learnRowValues) 3 (by rfl) (by rfl)
abbrev YX6_leastNotReached : MY := (RX6, cX6_leastNotReached, 6, (some .int), none)
set_option maxRecDepth 20000 in
theorem MX6_leastNotReached : MTH yX6_leastNotReached YX6_leastNotReached 1 := ⟨gtbl_in (w := Cond.initialized RX6) 22 (by rfl) (by rfl), gtbl_in (w := Cond.code yX6_leastNotReached cX6_leastNotReached 6 (some .int)) 483 (by rfl) (by rfl), by decide +kernel, by decide +kernel, rfl, rfl, by decide⟩
set_option maxRecDepth 20000 in
theorem iX6_leastNotReached : Cond.instanceMethod yX6_leastNotReached ∈ gtbl := gtbl_in (w := Cond.instanceMethod yX6_leastNotReached) 482 (by rfl) (by rfl)
set_option maxRecDepth 20000 in
theorem vX6_leastNotReached : Cond.selects yX6_leastNotReached.cls yX6_leastNotReached yX6_leastNotReached ∈ gtbl := gtbl_in (w := Cond.selects yX6_leastNotReached.cls yX6_leastNotReached yX6_leastNotReached) 4 (by rfl) (by rfl)
abbrev YX6_lean : MY := (RX6, cX6_lean, 11, (some .long), none)
set_option maxRecDepth 20000 in
theorem MX6_lean : MTH yX6_lean YX6_lean 4 := ⟨gtbl_in (w := Cond.initialized RX6) 22 (by rfl) (by rfl), gtbl_in (w := Cond.code yX6_lean cX6_lean 11 (some .long)) 491 (by rfl) (by rfl), by decide +kernel, by decide +kernel, rfl, rfl, by decide⟩
set_option maxRecDepth 20000 in
theorem iX6_lean : Cond.instanceMethod yX6_lean ∈ gtbl := gtbl_in (w := Cond.instanceMethod yX6_lean) 489 (by rfl) (by rfl)
set_option maxRecDepth 20000 in
theorem vX6_lean : Cond.selects yX6_lean.cls yX6_lean yX6_lean ∈ gtbl := gtbl_in (w := Cond.selects yX6_lean.cls yX6_lean yX6_lean) 490 (by rfl) (by rfl)
abbrev YX6_inLowestTerms : MY := (RX6, cX6_inLowestTerms, 9, (some .long), none)
set_option maxRecDepth 20000 in
theorem MX6_inLowestTerms : MTH yX6_inLowestTerms YX6_inLowestTerms 3 := ⟨gtbl_in (w := Cond.initialized RX6) 22 (by rfl) (by rfl), gtbl_in (w := Cond.code yX6_inLowestTerms cX6_inLowestTerms 9 (some .long)) 497 (by rfl) (by rfl), by decide +kernel, by decide +kernel, rfl, rfl, by decide⟩
set_option maxRecDepth 20000 in
theorem sX6_inLowestTerms : Cond.static yX6_inLowestTerms ∈ gtbl := gtbl_in (w := Cond.static yX6_inLowestTerms) 496 (by rfl) (by rfl)
abbrev YX6_greatestDivisor : MY := (RX6, cX6_greatestDivisor, 11, (some .long), none)
set_option maxRecDepth 20000 in
theorem MX6_greatestDivisor : MTH yX6_greatestDivisor YX6_greatestDivisor 2 := ⟨gtbl_in (w := Cond.initialized RX6) 22 (by rfl) (by rfl), gtbl_in (w := Cond.code yX6_greatestDivisor cX6_greatestDivisor 11 (some .long)) 500 (by rfl) (by rfl), by decide +kernel, by decide +kernel, rfl, rfl, by decide⟩
set_option maxRecDepth 20000 in
theorem sX6_greatestDivisor : Cond.static yX6_greatestDivisor ∈ gtbl := gtbl_in (w := Cond.static yX6_greatestDivisor) 499 (by rfl) (by rfl)
abbrev YX6_year : MY := (RX6, cX6_year, 10, (some .int), none)
set_option maxRecDepth 20000 in
theorem MX6_year : MTH yX6_year YX6_year 3 := ⟨gtbl_in (w := Cond.initialized RX6) 22 (by rfl) (by rfl), gtbl_in (w := Cond.code yX6_year cX6_year 10 (some .int)) 504 (by rfl) (by rfl), by decide +kernel, by decide +kernel, rfl, rfl, by decide⟩
set_option maxRecDepth 20000 in
theorem iX6_year : Cond.instanceMethod yX6_year ∈ gtbl := gtbl_in (w := Cond.instanceMethod yX6_year) 502 (by rfl) (by rfl)
set_option maxRecDepth 20000 in
theorem vX6_year : Cond.selects yX6_year.cls yX6_year yX6_year ∈ gtbl := gtbl_in (w := Cond.selects yX6_year.cls yX6_year yX6_year) 503 (by rfl) (by rfl)
abbrev YX6_image : MY := (RX6, cX6_image, 3, (some .int), none)
set_option maxRecDepth 20000 in
theorem MX6_image : MTH yX6_image YX6_image 1 := ⟨gtbl_in (w := Cond.initialized RX6) 22 (by rfl) (by rfl), gtbl_in (w := Cond.code yX6_image cX6_image 3 (some .int)) 522 (by rfl) (by rfl), by decide +kernel, by decide +kernel, rfl, rfl, by decide⟩
set_option maxRecDepth 20000 in
theorem iX6_image : Cond.instanceMethod yX6_image ∈ gtbl := gtbl_in (w := Cond.instanceMethod yX6_image) 520 (by rfl) (by rfl)
set_option maxRecDepth 20000 in
theorem vX6_image : Cond.selects yX6_image.cls yX6_image yX6_image ∈ gtbl := gtbl_in (w := Cond.selects yX6_image.cls yX6_image yX6_image) 521 (by rfl) (by rfl)
abbrev YX6_restore : MY := (RX6, cX6_restore, 3, (some .int), none)
set_option maxRecDepth 20000 in
theorem MX6_restore : MTH yX6_restore YX6_restore 1 := ⟨gtbl_in (w := Cond.initialized RX6) 22 (by rfl) (by rfl), gtbl_in (w := Cond.code yX6_restore cX6_restore 3 (some .int)) 530 (by rfl) (by rfl), by decide +kernel, by decide +kernel, rfl, rfl, by decide⟩
set_option maxRecDepth 20000 in
theorem iX6_restore : Cond.instanceMethod yX6_restore ∈ gtbl := gtbl_in (w := Cond.instanceMethod yX6_restore) 528 (by rfl) (by rfl)
set_option maxRecDepth 20000 in
theorem vX6_restore : Cond.selects yX6_restore.cls yX6_restore yX6_restore ∈ gtbl := gtbl_in (w := Cond.selects yX6_restore.cls yX6_restore yX6_restore) 529 (by rfl) (by rfl)
abbrev YX6_told : MY := (RX6, cX6_told, 2, (some .int), none)
set_option maxRecDepth 20000 in
theorem MX6_told : MTH yX6_told YX6_told 1 := ⟨gtbl_in (w := Cond.initialized RX6) 22 (by rfl) (by rfl), gtbl_in (w := Cond.code yX6_told cX6_told 2 (some .int)) 534 (by rfl) (by rfl), by decide +kernel, by decide +kernel, rfl, rfl, by decide⟩
set_option maxRecDepth 20000 in
theorem iX6_told : Cond.instanceMethod yX6_told ∈ gtbl := gtbl_in (w := Cond.instanceMethod yX6_told) 532 (by rfl) (by rfl)
set_option maxRecDepth 20000 in
theorem vX6_told : Cond.selects yX6_told.cls yX6_told yX6_told ∈ gtbl := gtbl_in (w := Cond.selects yX6_told.cls yX6_told yX6_told) 533 (by rfl) (by rfl)
abbrev YX6_toldOfHeap : MY := (RX6, cX6_toldOfHeap, 3, (some .int), none)
set_option maxRecDepth 20000 in
theorem MX6_toldOfHeap : MTH yX6_toldOfHeap YX6_toldOfHeap 2 := ⟨gtbl_in (w := Cond.initialized RX6) 22 (by rfl) (by rfl), gtbl_in (w := Cond.code yX6_toldOfHeap cX6_toldOfHeap 3 (some .int)) 538 (by rfl) (by rfl), by decide +kernel, by decide +kernel, rfl, rfl, by decide⟩
set_option maxRecDepth 20000 in
theorem iX6_toldOfHeap : Cond.instanceMethod yX6_toldOfHeap ∈ gtbl := gtbl_in (w := Cond.instanceMethod yX6_toldOfHeap) 537 (by rfl) (by rfl)
set_option maxRecDepth 20000 in
theorem vX6_toldOfHeap : Cond.selects yX6_toldOfHeap.cls yX6_toldOfHeap yX6_toldOfHeap ∈ gtbl := gtbl_in (w := Cond.selects yX6_toldOfHeap.cls yX6_toldOfHeap yX6_toldOfHeap) 6 (by rfl) (by rfl)
abbrev YX6_isIn : MY := (RX6, cX6_isIn, 6, (some .boolean), none)
set_option maxRecDepth 20000 in
theorem MX6_isIn : MTH yX6_isIn YX6_isIn 3 := ⟨gtbl_in (w := Cond.initialized RX6) 22 (by rfl) (by rfl), gtbl_in (w := Cond.code yX6_isIn cX6_isIn 6 (some .boolean)) 226 (by rfl) (by rfl), by decide +kernel, by decide +kernel, rfl, rfl, by decide⟩
set_option maxRecDepth 20000 in
theorem sX6_isIn : Cond.static yX6_isIn ∈ gtbl := gtbl_in (w := Cond.static yX6_isIn) 225 (by rfl) (by rfl)
abbrev YX6_isHeap : MY := (RX6, cX6_isHeap, 1, (some .boolean), none)
set_option maxRecDepth 20000 in
theorem MX6_isHeap : MTH yX6_isHeap YX6_isHeap 1 := ⟨gtbl_in (w := Cond.initialized RX6) 22 (by rfl) (by rfl), gtbl_in (w := Cond.code yX6_isHeap cX6_isHeap 1 (some .boolean)) 222 (by rfl) (by rfl), by decide +kernel, by decide +kernel, rfl, rfl, by decide⟩
set_option maxRecDepth 20000 in
theorem sX6_isHeap : Cond.static yX6_isHeap ∈ gtbl := gtbl_in (w := Cond.static yX6_isHeap) 221 (by rfl) (by rfl)
abbrev YX6_hasBit : MY := (RX6, cX6_hasBit, 2, (some .boolean), none)
set_option maxRecDepth 20000 in
theorem MX6_hasBit : MTH yX6_hasBit YX6_hasBit 2 := ⟨gtbl_in (w := Cond.initialized RX6) 22 (by rfl) (by rfl), gtbl_in (w := Cond.code yX6_hasBit cX6_hasBit 2 (some .boolean)) 317 (by rfl) (by rfl), by decide +kernel, by decide +kernel, rfl, rfl, by decide⟩
set_option maxRecDepth 20000 in
theorem sX6_hasBit : Cond.static yX6_hasBit ∈ gtbl := gtbl_in (w := Cond.static yX6_hasBit) 316 (by rfl) (by rfl)
abbrev YX7_init : MY := (RX7, cX7_init, 2, none, none)
abbrev YX7_in : MY := (RX7, cX7_in, 3, (some .boolean), none)
set_option maxRecDepth 20000 in
theorem MX7_in : MTH yX7_in YX7_in 3 := ⟨gtbl_in (w := Cond.initialized RX7) 29 (by rfl) (by rfl), gtbl_in (w := Cond.code yX7_in cX7_in 3 (some .boolean)) 616 (by rfl) (by rfl), by decide +kernel, by decide +kernel, rfl, rfl, by decide⟩
set_option maxRecDepth 20000 in
theorem sX7_in : Cond.static yX7_in ∈ gtbl := gtbl_in (w := Cond.static yX7_in) 615 (by rfl) (by rfl)
abbrev YX7_has : MY := (RX7, cX7_has, 2, (some .boolean), none)
set_option maxRecDepth 20000 in
theorem MX7_has : MTH yX7_has YX7_has 2 := ⟨gtbl_in (w := Cond.initialized RX7) 29 (by rfl) (by rfl), gtbl_in (w := Cond.code yX7_has cX7_has 2 (some .boolean)) 662 (by rfl) (by rfl), by decide +kernel, by decide +kernel, rfl, rfl, by decide⟩
set_option maxRecDepth 20000 in
theorem sX7_has : Cond.static yX7_has ∈ gtbl := gtbl_in (w := Cond.static yX7_has) 661 (by rfl) (by rfl)
abbrev YX7_bits : MY := (RX7, cX7_bits, 3, (some .int), none)
set_option maxRecDepth 20000 in
theorem MX7_bits : MTH yX7_bits YX7_bits 1 := ⟨gtbl_in (w := Cond.initialized RX7) 29 (by rfl) (by rfl), gtbl_in (w := Cond.code yX7_bits cX7_bits 3 (some .int)) 623 (by rfl) (by rfl), by decide +kernel, by decide +kernel, rfl, rfl, by decide⟩
set_option maxRecDepth 20000 in
theorem sX7_bits : Cond.static yX7_bits ∈ gtbl := gtbl_in (w := Cond.static yX7_bits) 622 (by rfl) (by rfl)
abbrev YX7_isHeap : MY := (RX7, cX7_isHeap, 1, (some .boolean), none)
set_option maxRecDepth 20000 in
theorem MX7_isHeap : MTH yX7_isHeap YX7_isHeap 1 := ⟨gtbl_in (w := Cond.initialized RX7) 29 (by rfl) (by rfl), gtbl_in (w := Cond.code yX7_isHeap cX7_isHeap 1 (some .boolean)) 613 (by rfl) (by rfl), by decide +kernel, by decide +kernel, rfl, rfl, by decide⟩
set_option maxRecDepth 20000 in
theorem sX7_isHeap : Cond.static yX7_isHeap ∈ gtbl := gtbl_in (w := Cond.static yX7_isHeap) 612 (by rfl) (by rfl)
abbrev YX7_heap : MY := (RX7, cX7_heap, 6, (some .int), none)
set_option maxRecDepth 20000 in
theorem MX7_heap : MTH yX7_heap YX7_heap 4 := ⟨gtbl_in (w := Cond.initialized RX7) 29 (by rfl) (by rfl), gtbl_in (w := Cond.code yX7_heap cX7_heap 6 (some .int)) 610 (by rfl) (by rfl), by decide +kernel, by decide +kernel, rfl, rfl, by decide⟩
set_option maxRecDepth 20000 in
theorem iX7_heap : Cond.instanceMethod yX7_heap ∈ gtbl := gtbl_in (w := Cond.instanceMethod yX7_heap) 608 (by rfl) (by rfl)
set_option maxRecDepth 20000 in
theorem vX7_heap : Cond.selects yX7_heap.cls yX7_heap yX7_heap ∈ gtbl := gtbl_in (w := Cond.selects yX7_heap.cls yX7_heap yX7_heap) 609 (by rfl) (by rfl)
abbrev YX7_burners : MY := (RX7, cX7_burners, 3, (some .int), none)
set_option maxRecDepth 20000 in
theorem MX7_burners : MTH yX7_burners YX7_burners 1 := ⟨gtbl_in (w := Cond.initialized RX7) 29 (by rfl) (by rfl), gtbl_in (w := Cond.code yX7_burners cX7_burners 3 (some .int)) 620 (by rfl) (by rfl), by decide +kernel, by decide +kernel, rfl, rfl, by decide⟩
set_option maxRecDepth 20000 in
theorem iX7_burners : Cond.instanceMethod yX7_burners ∈ gtbl := gtbl_in (w := Cond.instanceMethod yX7_burners) 618 (by rfl) (by rfl)
set_option maxRecDepth 20000 in
theorem vX7_burners : Cond.selects yX7_burners.cls yX7_burners yX7_burners ∈ gtbl := gtbl_in (w := Cond.selects yX7_burners.cls yX7_burners yX7_burners) 619 (by rfl) (by rfl)
abbrev YX7_say : MY := (RX7, cX7_say, 2, (some .int), none)
set_option maxRecDepth 20000 in
theorem MX7_say : MTH yX7_say YX7_say 1 := ⟨gtbl_in (w := Cond.initialized RX7) 29 (by rfl) (by rfl), gtbl_in (w := Cond.code yX7_say cX7_say 2 (some .int)) 627 (by rfl) (by rfl), by decide +kernel, by decide +kernel, rfl, rfl, by decide⟩
set_option maxRecDepth 20000 in
theorem iX7_say : Cond.instanceMethod yX7_say ∈ gtbl := gtbl_in (w := Cond.instanceMethod yX7_say) 625 (by rfl) (by rfl)
set_option maxRecDepth 20000 in
theorem vX7_say : Cond.selects yX7_say.cls yX7_say yX7_say ∈ gtbl := gtbl_in (w := Cond.selects yX7_say.cls yX7_say yX7_say) 626 (by rfl) (by rfl)
abbrev YX7_wipe : MY := (RX7, cX7_wipe, 2, (some .int), none)
set_option maxRecDepth 20000 in
theorem MX7_wipe : MTH yX7_wipe YX7_wipe 0 := ⟨gtbl_in (w := Cond.initialized RX7) 29 (by rfl) (by rfl), gtbl_in (w := Cond.code yX7_wipe cX7_wipe 2 (some .int)) 631 (by rfl) (by rfl), by decide +kernel, by decide +kernel, rfl, rfl, by decide⟩
set_option maxRecDepth 20000 in
theorem iX7_wipe : Cond.instanceMethod yX7_wipe ∈ gtbl := gtbl_in (w := Cond.instanceMethod yX7_wipe) 629 (by rfl) (by rfl)
set_option maxRecDepth 20000 in
theorem vX7_wipe : Cond.selects yX7_wipe.cls yX7_wipe yX7_wipe ∈ gtbl := gtbl_in (w := Cond.selects yX7_wipe.cls yX7_wipe yX7_wipe) 630 (by rfl) (by rfl)
abbrev YX7_faultOf : MY := (RX7, cX7_faultOf, 6, (some .int), none)
set_option maxRecDepth 20000 in
theorem MX7_faultOf : MTH yX7_faultOf YX7_faultOf 0 := ⟨gtbl_in (w := Cond.initialized RX7) 29 (by rfl) (by rfl), gtbl_in (w := Cond.code yX7_faultOf cX7_faultOf 6 (some .int)) 639 (by rfl) (by rfl), by decide +kernel, by decide +kernel, rfl, rfl, by decide⟩
set_option maxRecDepth 20000 in
theorem iX7_faultOf : Cond.instanceMethod yX7_faultOf ∈ gtbl := gtbl_in (w := Cond.instanceMethod yX7_faultOf) 638 (by rfl) (by rfl)
set_option maxRecDepth 20000 in
theorem vX7_faultOf : Cond.selects yX7_faultOf.cls yX7_faultOf yX7_faultOf ∈ gtbl := gtbl_in (w := Cond.selects yX7_faultOf.cls yX7_faultOf yX7_faultOf) 7 (by rfl) (by rfl)
abbrev YX7_fault : MY := (RX7, cX7_fault, 1, (some .int), none)
set_option maxRecDepth 20000 in
theorem MX7_fault : MTH yX7_fault YX7_fault 0 := ⟨gtbl_in (w := Cond.initialized RX7) 29 (by rfl) (by rfl), gtbl_in (w := Cond.code yX7_fault cX7_fault 1 (some .int)) 635 (by rfl) (by rfl), by decide +kernel, by decide +kernel, rfl, rfl, by decide⟩
set_option maxRecDepth 20000 in
theorem iX7_fault : Cond.instanceMethod yX7_fault ∈ gtbl := gtbl_in (w := Cond.instanceMethod yX7_fault) 633 (by rfl) (by rfl)
set_option maxRecDepth 20000 in
theorem vX7_fault : Cond.selects yX7_fault.cls yX7_fault yX7_fault ∈ gtbl := gtbl_in (w := Cond.selects yX7_fault.cls yX7_fault yX7_fault) 634 (by rfl) (by rfl)
abbrev YX7_asNow : MY := (RX7, cX7_asNow, 2, none, none)
set_option maxRecDepth 20000 in
theorem MX7_asNow : MTH yX7_asNow YX7_asNow 0 := ⟨gtbl_in (w := Cond.initialized RX7) 29 (by rfl) (by rfl), gtbl_in (w := Cond.code yX7_asNow cX7_asNow 2 none) 651 (by rfl) (by rfl), by decide +kernel, by decide +kernel, rfl, rfl, by decide⟩
set_option maxRecDepth 20000 in
theorem iX7_asNow : Cond.instanceMethod yX7_asNow ∈ gtbl := gtbl_in (w := Cond.instanceMethod yX7_asNow) 650 (by rfl) (by rfl)
set_option maxRecDepth 20000 in
theorem vX7_asNow : Cond.selects yX7_asNow.cls yX7_asNow yX7_asNow ∈ gtbl := gtbl_in (w := Cond.selects yX7_asNow.cls yX7_asNow yX7_asNow) 9 (by rfl) (by rfl)
abbrev YX7_off : MY := (RX7, cX7_off, 2, (some .int), none)
set_option maxRecDepth 20000 in
theorem MX7_off : MTH yX7_off YX7_off 2 := ⟨gtbl_in (w := Cond.initialized RX7) 29 (by rfl) (by rfl), gtbl_in (w := Cond.code yX7_off cX7_off 2 (some .int)) 668 (by rfl) (by rfl), by decide +kernel, by decide +kernel, rfl, rfl, by decide⟩
set_option maxRecDepth 20000 in
theorem sX7_off : Cond.static yX7_off ∈ gtbl := gtbl_in (w := Cond.static yX7_off) 667 (by rfl) (by rfl)
abbrev YX7_areNear : MY := (RX7, cX7_areNear, 2, (some .boolean), none)
set_option maxRecDepth 20000 in
theorem MX7_areNear : MTH yX7_areNear YX7_areNear 2 := ⟨gtbl_in (w := Cond.initialized RX7) 29 (by rfl) (by rfl), gtbl_in (w := Cond.code yX7_areNear cX7_areNear 2 (some .boolean)) 665 (by rfl) (by rfl), by decide +kernel, by decide +kernel, rfl, rfl, by decide⟩
set_option maxRecDepth 20000 in
theorem sX7_areNear : Cond.static yX7_areNear ∈ gtbl := gtbl_in (w := Cond.static yX7_areNear) 664 (by rfl) (by rfl)
abbrev YX7_stack : MY := (RX7, cX7_stack, 4, (some .int), none)
set_option maxRecDepth 20000 in
theorem MX7_stack : MTH yX7_stack YX7_stack 2 := ⟨gtbl_in (w := Cond.initialized RX7) 29 (by rfl) (by rfl), gtbl_in (w := Cond.code yX7_stack cX7_stack 4 (some .int)) 684 (by rfl) (by rfl), by decide +kernel, by decide +kernel, rfl, rfl, by decide⟩
set_option maxRecDepth 20000 in
theorem iX7_stack : Cond.instanceMethod yX7_stack ∈ gtbl := gtbl_in (w := Cond.instanceMethod yX7_stack) 683 (by rfl) (by rfl)
set_option maxRecDepth 20000 in
theorem vX7_stack : Cond.selects yX7_stack.cls yX7_stack yX7_stack ∈ gtbl := gtbl_in (w := Cond.selects yX7_stack.cls yX7_stack yX7_stack) 15 (by rfl) (by rfl)
abbrev YX7_turf : MY := (RX7, cX7_turf, 3, (some .int), none)
set_option maxRecDepth 20000 in
theorem MX7_turf : MTH yX7_turf YX7_turf 2 := ⟨gtbl_in (w := Cond.initialized RX7) 29 (by rfl) (by rfl), gtbl_in (w := Cond.code yX7_turf cX7_turf 3 (some .int)) 672 (by rfl) (by rfl), by decide +kernel, by decide +kernel, rfl, rfl, by decide⟩
set_option maxRecDepth 20000 in
theorem iX7_turf : Cond.instanceMethod yX7_turf ∈ gtbl := gtbl_in (w := Cond.instanceMethod yX7_turf) 671 (by rfl) (by rfl)
set_option maxRecDepth 20000 in
theorem vX7_turf : Cond.selects yX7_turf.cls yX7_turf yX7_turf ∈ gtbl := gtbl_in (w := Cond.selects yX7_turf.cls yX7_turf yX7_turf) 12 (by rfl) (by rfl)
abbrev YX7_kindle : MY := (RX7, cX7_kindle, 2, (some .int), none)
set_option maxRecDepth 20000 in
theorem MX7_kindle : MTH yX7_kindle YX7_kindle 1 := ⟨gtbl_in (w := Cond.initialized RX7) 29 (by rfl) (by rfl), gtbl_in (w := Cond.code yX7_kindle cX7_kindle 2 (some .int)) 676 (by rfl) (by rfl), by decide +kernel, by decide +kernel, rfl, rfl, by decide⟩
set_option maxRecDepth 20000 in
theorem iX7_kindle : Cond.instanceMethod yX7_kindle ∈ gtbl := gtbl_in (w := Cond.instanceMethod yX7_kindle) 675 (by rfl) (by rfl)
set_option maxRecDepth 20000 in
theorem vX7_kindle : Cond.selects yX7_kindle.cls yX7_kindle yX7_kindle ∈ gtbl := gtbl_in (w := Cond.selects yX7_kindle.cls yX7_kindle yX7_kindle) 13 (by rfl) (by rfl)
abbrev YX7_watch : MY := (RX7, cX7_watch, 2, (some .int), none)
set_option maxRecDepth 20000 in
theorem MX7_watch : MTH yX7_watch YX7_watch 1 := ⟨gtbl_in (w := Cond.initialized RX7) 29 (by rfl) (by rfl), gtbl_in (w := Cond.code yX7_watch cX7_watch 2 (some .int)) 680 (by rfl) (by rfl), by decide +kernel, by decide +kernel, rfl, rfl, by decide⟩
set_option maxRecDepth 20000 in
theorem iX7_watch : Cond.instanceMethod yX7_watch ∈ gtbl := gtbl_in (w := Cond.instanceMethod yX7_watch) 679 (by rfl) (by rfl)
set_option maxRecDepth 20000 in
theorem vX7_watch : Cond.selects yX7_watch.cls yX7_watch yX7_watch ∈ gtbl := gtbl_in (w := Cond.selects yX7_watch.cls yX7_watch yX7_watch) 14 (by rfl) (by rfl)
abbrev YX7_burn : MY := (RX7, cX7_burn, 5, (some .int), none)
set_option maxRecDepth 20000 in
theorem MX7_burn : MTH yX7_burn YX7_burn 0 := ⟨gtbl_in (w := Cond.initialized RX7) 29 (by rfl) (by rfl), gtbl_in (w := Cond.code yX7_burn cX7_burn 5 (some .int)) 659 (by rfl) (by rfl), by decide +kernel, by decide +kernel, rfl, rfl, by decide⟩
set_option maxRecDepth 20000 in
theorem iX7_burn : Cond.instanceMethod yX7_burn ∈ gtbl := gtbl_in (w := Cond.instanceMethod yX7_burn) 658 (by rfl) (by rfl)
set_option maxRecDepth 20000 in
theorem vX7_burn : Cond.selects yX7_burn.cls yX7_burn yX7_burn ∈ gtbl := gtbl_in (w := Cond.selects yX7_burn.cls yX7_burn yX7_burn) 11 (by rfl) (by rfl)
abbrev YX7_endNight : MY := (RX7, cX7_endNight, 1, (some .int), none)
set_option maxRecDepth 20000 in
theorem MX7_endNight : MTH yX7_endNight YX7_endNight 0 := ⟨gtbl_in (w := Cond.initialized RX7) 29 (by rfl) (by rfl), gtbl_in (w := Cond.code yX7_endNight cX7_endNight 1 (some .int)) 655 (by rfl) (by rfl), by decide +kernel, by decide +kernel, rfl, rfl, by decide⟩
set_option maxRecDepth 20000 in
theorem iX7_endNight : Cond.instanceMethod yX7_endNight ∈ gtbl := gtbl_in (w := Cond.instanceMethod yX7_endNight) 654 (by rfl) (by rfl)
set_option maxRecDepth 20000 in
theorem vX7_endNight : Cond.selects yX7_endNight.cls yX7_endNight yX7_endNight ∈ gtbl := gtbl_in (w := Cond.selects yX7_endNight.cls yX7_endNight yX7_endNight) 10 (by rfl) (by rfl)
abbrev YX7_goWeeks : MY := (RX7, cX7_goWeeks, 4, (some .int), none)
set_option maxRecDepth 20000 in
theorem MX7_goWeeks : MTH yX7_goWeeks YX7_goWeeks 0 := ⟨gtbl_in (w := Cond.initialized RX7) 29 (by rfl) (by rfl), gtbl_in (w := Cond.code yX7_goWeeks cX7_goWeeks 4 (some .int)) 647 (by rfl) (by rfl), by decide +kernel, by decide +kernel, rfl, rfl, by decide⟩
set_option maxRecDepth 20000 in
theorem iX7_goWeeks : Cond.instanceMethod yX7_goWeeks ∈ gtbl := gtbl_in (w := Cond.instanceMethod yX7_goWeeks) 646 (by rfl) (by rfl)
set_option maxRecDepth 20000 in
theorem vX7_goWeeks : Cond.selects yX7_goWeeks.cls yX7_goWeeks yX7_goWeeks ∈ gtbl := gtbl_in (w := Cond.selects yX7_goWeeks.cls yX7_goWeeks yX7_goWeeks) 8 (by rfl) (by rfl)
abbrev YX7_judge : MY := (RX7, cX7_judge, 3, (some .int), none)
set_option maxRecDepth 20000 in
theorem MX7_judge : MTH yX7_judge YX7_judge 1 := ⟨gtbl_in (w := Cond.initialized RX7) 29 (by rfl) (by rfl), gtbl_in (w := Cond.code yX7_judge cX7_judge 3 (some .int)) 643 (by rfl) (by rfl), by decide +kernel, by decide +kernel, rfl, rfl, by decide⟩
set_option maxRecDepth 20000 in
theorem iX7_judge : Cond.instanceMethod yX7_judge ∈ gtbl := gtbl_in (w := Cond.instanceMethod yX7_judge) 641 (by rfl) (by rfl)
set_option maxRecDepth 20000 in
theorem vX7_judge : Cond.selects yX7_judge.cls yX7_judge yX7_judge ∈ gtbl := gtbl_in (w := Cond.selects yX7_judge.cls yX7_judge yX7_judge) 642 (by rfl) (by rfl)
abbrev YX7_barOfWeeks : MY := (RX7, cX7_barOfWeeks, 1, (some .int), none)
set_option maxRecDepth 20000 in
theorem MX7_barOfWeeks : MTH yX7_barOfWeeks YX7_barOfWeeks 0 := ⟨gtbl_in (w := Cond.initialized RX7) 29 (by rfl) (by rfl), gtbl_in (w := Cond.code yX7_barOfWeeks cX7_barOfWeeks 1 (some .int)) 692 (by rfl) (by rfl), by decide +kernel, by decide +kernel, rfl, rfl, by decide⟩
set_option maxRecDepth 20000 in
theorem iX7_barOfWeeks : Cond.instanceMethod yX7_barOfWeeks ∈ gtbl := gtbl_in (w := Cond.instanceMethod yX7_barOfWeeks) 691 (by rfl) (by rfl)
set_option maxRecDepth 20000 in
theorem vX7_barOfWeeks : Cond.selects yX7_barOfWeeks.cls yX7_barOfWeeks yX7_barOfWeeks ∈ gtbl := gtbl_in (w := Cond.selects yX7_barOfWeeks.cls yX7_barOfWeeks yX7_barOfWeeks) 16 (by rfl) (by rfl)
abbrev YX7_done : MY := (RX7, cX7_done, 2, (some .int), none)
set_option maxRecDepth 20000 in
theorem MX7_done : MTH yX7_done YX7_done 0 := ⟨gtbl_in (w := Cond.initialized RX7) 29 (by rfl) (by rfl), gtbl_in (w := Cond.code yX7_done cX7_done 2 (some .int)) 688 (by rfl) (by rfl), by decide +kernel, by decide +kernel, rfl, rfl, by decide⟩
set_option maxRecDepth 20000 in
theorem iX7_done : Cond.instanceMethod yX7_done ∈ gtbl := gtbl_in (w := Cond.instanceMethod yX7_done) 686 (by rfl) (by rfl)
set_option maxRecDepth 20000 in
theorem vX7_done : Cond.selects yX7_done.cls yX7_done yX7_done ∈ gtbl := gtbl_in (w := Cond.selects yX7_done.cls yX7_done yX7_done) 687 (by rfl) (by rfl)
abbrev YX7_behind : MY := (RX7, cX7_behind, 3, (some .int), none)
set_option maxRecDepth 20000 in
theorem MX7_behind : MTH yX7_behind YX7_behind 2 := ⟨gtbl_in (w := Cond.initialized RX7) 29 (by rfl) (by rfl), gtbl_in (w := Cond.code yX7_behind cX7_behind 3 (some .int)) 696 (by rfl) (by rfl), by decide +kernel, by decide +kernel, rfl, rfl, by decide⟩
set_option maxRecDepth 20000 in
theorem iX7_behind : Cond.instanceMethod yX7_behind ∈ gtbl := gtbl_in (w := Cond.instanceMethod yX7_behind) 694 (by rfl) (by rfl)
set_option maxRecDepth 20000 in
theorem vX7_behind : Cond.selects yX7_behind.cls yX7_behind yX7_behind ∈ gtbl := gtbl_in (w := Cond.selects yX7_behind.cls yX7_behind yX7_behind) 695 (by rfl) (by rfl)
abbrev YX7_then : MY := (RX7, cX7_then, 2, (some .int), none)
set_option maxRecDepth 20000 in
theorem MX7_then : MTH yX7_then YX7_then 1 := ⟨gtbl_in (w := Cond.initialized RX7) 29 (by rfl) (by rfl), gtbl_in (w := Cond.code yX7_then cX7_then 2 (some .int)) 700 (by rfl) (by rfl), by decide +kernel, by decide +kernel, rfl, rfl, by decide⟩
set_option maxRecDepth 20000 in
theorem iX7_then : Cond.instanceMethod yX7_then ∈ gtbl := gtbl_in (w := Cond.instanceMethod yX7_then) 698 (by rfl) (by rfl)
set_option maxRecDepth 20000 in
theorem vX7_then : Cond.selects yX7_then.cls yX7_then yX7_then ∈ gtbl := gtbl_in (w := Cond.selects yX7_then.cls yX7_then yX7_then) 699 (by rfl) (by rfl)
abbrev YX7_chainOf : MY := (RX7, cX7_chainOf, 8, (some .int), none)
set_option maxRecDepth 20000 in
theorem MX7_chainOf : MTH yX7_chainOf YX7_chainOf 2 := ⟨gtbl_in (w := Cond.initialized RX7) 29 (by rfl) (by rfl), gtbl_in (w := Cond.code yX7_chainOf cX7_chainOf 8 (some .int)) 708 (by rfl) (by rfl), by decide +kernel, by decide +kernel, rfl, rfl, by decide⟩
set_option maxRecDepth 20000 in
theorem iX7_chainOf : Cond.instanceMethod yX7_chainOf ∈ gtbl := gtbl_in (w := Cond.instanceMethod yX7_chainOf) 707 (by rfl) (by rfl)
set_option maxRecDepth 20000 in
theorem vX7_chainOf : Cond.selects yX7_chainOf.cls yX7_chainOf yX7_chainOf ∈ gtbl := gtbl_in (w := Cond.selects yX7_chainOf.cls yX7_chainOf yX7_chainOf) 17 (by rfl) (by rfl)
abbrev YX7_chain : MY := (RX7, cX7_chain, 2, (some .int), none)
set_option maxRecDepth 20000 in
theorem MX7_chain : MTH yX7_chain YX7_chain 1 := ⟨gtbl_in (w := Cond.initialized RX7) 29 (by rfl) (by rfl), gtbl_in (w := Cond.code yX7_chain cX7_chain 2 (some .int)) 704 (by rfl) (by rfl), by decide +kernel, by decide +kernel, rfl, rfl, by decide⟩
set_option maxRecDepth 20000 in
theorem iX7_chain : Cond.instanceMethod yX7_chain ∈ gtbl := gtbl_in (w := Cond.instanceMethod yX7_chain) 702 (by rfl) (by rfl)
set_option maxRecDepth 20000 in
theorem vX7_chain : Cond.selects yX7_chain.cls yX7_chain yX7_chain ∈ gtbl := gtbl_in (w := Cond.selects yX7_chain.cls yX7_chain yX7_chain) 703 (by rfl) (by rfl)
abbrev YX7_cover : MY := (RX7, cX7_cover, 7, (some .int), none)
set_option maxRecDepth 20000 in
theorem MX7_cover : MTH yX7_cover YX7_cover 3 := ⟨gtbl_in (w := Cond.initialized RX7) 29 (by rfl) (by rfl), gtbl_in (w := Cond.code yX7_cover cX7_cover 7 (some .int)) 712 (by rfl) (by rfl), by decide +kernel, by decide +kernel, rfl, rfl, by decide⟩
set_option maxRecDepth 20000 in
theorem iX7_cover : Cond.instanceMethod yX7_cover ∈ gtbl := gtbl_in (w := Cond.instanceMethod yX7_cover) 710 (by rfl) (by rfl)
set_option maxRecDepth 20000 in
theorem vX7_cover : Cond.selects yX7_cover.cls yX7_cover yX7_cover ∈ gtbl := gtbl_in (w := Cond.selects yX7_cover.cls yX7_cover yX7_cover) 711 (by rfl) (by rfl)
abbrev YX7_canBeDrawn : MY := (RX7, cX7_canBeDrawn, 6, (some .boolean), none)
set_option maxRecDepth 20000 in
theorem MX7_canBeDrawn : MTH yX7_canBeDrawn YX7_canBeDrawn 2 := ⟨gtbl_in (w := Cond.initialized RX7) 29 (by rfl) (by rfl), gtbl_in (w := Cond.code yX7_canBeDrawn cX7_canBeDrawn 6 (some .boolean)) 721 (by rfl) (by rfl), by decide +kernel, by decide +kernel, rfl, rfl, by decide⟩
set_option maxRecDepth 20000 in
theorem iX7_canBeDrawn : Cond.instanceMethod yX7_canBeDrawn ∈ gtbl := gtbl_in (w := Cond.instanceMethod yX7_canBeDrawn) 720 (by rfl) (by rfl)
set_option maxRecDepth 20000 in
theorem vX7_canBeDrawn : Cond.selects yX7_canBeDrawn.cls yX7_canBeDrawn yX7_canBeDrawn ∈ gtbl := gtbl_in (w := Cond.selects yX7_canBeDrawn.cls yX7_canBeDrawn yX7_canBeDrawn) 18 (by rfl) (by rfl)
abbrev YX7_due : MY := (RX7, cX7_due, 12, (some .int), none)
set_option maxRecDepth 20000 in
theorem MX7_due : MTH yX7_due YX7_due 4 := ⟨gtbl_in (w := Cond.initialized RX7) 29 (by rfl) (by rfl), gtbl_in (w := Cond.code yX7_due cX7_due 12 (some .int)) 716 (by rfl) (by rfl), by decide +kernel, by decide +kernel, rfl, rfl, by decide⟩
set_option maxRecDepth 20000 in
theorem iX7_due : Cond.instanceMethod yX7_due ∈ gtbl := gtbl_in (w := Cond.instanceMethod yX7_due) 714 (by rfl) (by rfl)
set_option maxRecDepth 20000 in
theorem vX7_due : Cond.selects yX7_due.cls yX7_due yX7_due ∈ gtbl := gtbl_in (w := Cond.selects yX7_due.cls yX7_due yX7_due) 715 (by rfl) (by rfl)
abbrev YX7_nods : MY := (RX7, cX7_nods, 11, (some .int), none)
set_option maxRecDepth 20000 in
theorem MX7_nods : MTH yX7_nods YX7_nods 6 := ⟨gtbl_in (w := Cond.initialized RX7) 29 (by rfl) (by rfl), gtbl_in (w := Cond.code yX7_nods cX7_nods 11 (some .int)) 725 (by rfl) (by rfl), by decide +kernel, by decide +kernel, rfl, rfl, by decide⟩
set_option maxRecDepth 20000 in
theorem iX7_nods : Cond.instanceMethod yX7_nods ∈ gtbl := gtbl_in (w := Cond.instanceMethod yX7_nods) 723 (by rfl) (by rfl)
set_option maxRecDepth 20000 in
theorem vX7_nods : Cond.selects yX7_nods.cls yX7_nods yX7_nods ∈ gtbl := gtbl_in (w := Cond.selects yX7_nods.cls yX7_nods yX7_nods) 724 (by rfl) (by rfl)
abbrev YX7_seen : MY := (RX7, cX7_seen, 3, (some .int), none)
set_option maxRecDepth 20000 in
theorem MX7_seen : MTH yX7_seen YX7_seen 2 := ⟨gtbl_in (w := Cond.initialized RX7) 29 (by rfl) (by rfl), gtbl_in (w := Cond.code yX7_seen cX7_seen 3 (some .int)) 729 (by rfl) (by rfl), by decide +kernel, by decide +kernel, rfl, rfl, by decide⟩
set_option maxRecDepth 20000 in
theorem iX7_seen : Cond.instanceMethod yX7_seen ∈ gtbl := gtbl_in (w := Cond.instanceMethod yX7_seen) 727 (by rfl) (by rfl)
set_option maxRecDepth 20000 in
theorem vX7_seen : Cond.selects yX7_seen.cls yX7_seen yX7_seen ∈ gtbl := gtbl_in (w := Cond.selects yX7_seen.cls yX7_seen yX7_seen) 728 (by rfl) (by rfl)
abbrev YX7_forget : MY := (RX7, cX7_forget, 2, (some .int), none)
set_option maxRecDepth 20000 in
theorem MX7_forget : MTH yX7_forget YX7_forget 0 := ⟨gtbl_in (w := Cond.initialized RX7) 29 (by rfl) (by rfl), gtbl_in (w := Cond.code yX7_forget cX7_forget 2 (some .int)) 733 (by rfl) (by rfl), by decide +kernel, by decide +kernel, rfl, rfl, by decide⟩
set_option maxRecDepth 20000 in
theorem iX7_forget : Cond.instanceMethod yX7_forget ∈ gtbl := gtbl_in (w := Cond.instanceMethod yX7_forget) 731 (by rfl) (by rfl)
set_option maxRecDepth 20000 in
theorem vX7_forget : Cond.selects yX7_forget.cls yX7_forget yX7_forget ∈ gtbl := gtbl_in (w := Cond.selects yX7_forget.cls yX7_forget yX7_forget) 732 (by rfl) (by rfl)
abbrev YX7_colour : MY := (RX7, cX7_colour, 2, (some .int), none)
set_option maxRecDepth 20000 in
theorem MX7_colour : MTH yX7_colour YX7_colour 2 := ⟨gtbl_in (w := Cond.initialized RX7) 29 (by rfl) (by rfl), gtbl_in (w := Cond.code yX7_colour cX7_colour 2 (some .int)) 744 (by rfl) (by rfl), by decide +kernel, by decide +kernel, rfl, rfl, by decide⟩
set_option maxRecDepth 20000 in
theorem sX7_colour : Cond.static yX7_colour ∈ gtbl := gtbl_in (w := Cond.static yX7_colour) 743 (by rfl) (by rfl)
abbrev YX7_isFit : MY := (RX7, cX7_isFit, 4, (some .boolean), none)
set_option maxRecDepth 20000 in
theorem MX7_isFit : MTH yX7_isFit YX7_isFit 1 := ⟨gtbl_in (w := Cond.initialized RX7) 29 (by rfl) (by rfl), gtbl_in (w := Cond.code yX7_isFit cX7_isFit 4 (some .boolean)) 741 (by rfl) (by rfl), by decide +kernel, by decide +kernel, rfl, rfl, by decide⟩
set_option maxRecDepth 20000 in
theorem iX7_isFit : Cond.instanceMethod yX7_isFit ∈ gtbl := gtbl_in (w := Cond.instanceMethod yX7_isFit) 740 (by rfl) (by rfl)
set_option maxRecDepth 20000 in
theorem vX7_isFit : Cond.selects yX7_isFit.cls yX7_isFit yX7_isFit ∈ gtbl := gtbl_in (w := Cond.selects yX7_isFit.cls yX7_isFit yX7_isFit) 19 (by rfl) (by rfl)
abbrev YX7_matter : MY := (RX7, cX7_matter, 4, (some .int), none)
set_option maxRecDepth 20000 in
theorem MX7_matter : MTH yX7_matter YX7_matter 1 := ⟨gtbl_in (w := Cond.initialized RX7) 29 (by rfl) (by rfl), gtbl_in (w := Cond.code yX7_matter cX7_matter 4 (some .int)) 737 (by rfl) (by rfl), by decide +kernel, by decide +kernel, rfl, rfl, by decide⟩
set_option maxRecDepth 20000 in
theorem iX7_matter : Cond.instanceMethod yX7_matter ∈ gtbl := gtbl_in (w := Cond.instanceMethod yX7_matter) 735 (by rfl) (by rfl)
set_option maxRecDepth 20000 in
theorem vX7_matter : Cond.selects yX7_matter.cls yX7_matter yX7_matter ∈ gtbl := gtbl_in (w := Cond.selects yX7_matter.cls yX7_matter yX7_matter) 736 (by rfl) (by rfl)
abbrev YX7_ask : MY := (RX7, cX7_ask, 8, (some .int), none)
set_option maxRecDepth 20000 in
theorem MX7_ask : MTH yX7_ask YX7_ask 1 := ⟨gtbl_in (w := Cond.initialized RX7) 29 (by rfl) (by rfl), gtbl_in (w := Cond.code yX7_ask cX7_ask 8 (some .int)) 748 (by rfl) (by rfl), by decide +kernel, by decide +kernel, rfl, rfl, by decide⟩
set_option maxRecDepth 20000 in
theorem iX7_ask : Cond.instanceMethod yX7_ask ∈ gtbl := gtbl_in (w := Cond.instanceMethod yX7_ask) 746 (by rfl) (by rfl)
set_option maxRecDepth 20000 in
theorem vX7_ask : Cond.selects yX7_ask.cls yX7_ask yX7_ask ∈ gtbl := gtbl_in (w := Cond.selects yX7_ask.cls yX7_ask yX7_ask) 747 (by rfl) (by rfl)
abbrev YX7_layWorth : MY := (RX7, cX7_layWorth, 5, none, none)
set_option maxRecDepth 20000 in
theorem MX7_layWorth : MTH yX7_layWorth YX7_layWorth 1 := ⟨gtbl_in (w := Cond.initialized RX7) 29 (by rfl) (by rfl), gtbl_in (w := Cond.code yX7_layWorth cX7_layWorth 5 none) 757 (by rfl) (by rfl), by decide +kernel, by decide +kernel, rfl, rfl, by decide⟩
set_option maxRecDepth 20000 in
theorem iX7_layWorth : Cond.instanceMethod yX7_layWorth ∈ gtbl := gtbl_in (w := Cond.instanceMethod yX7_layWorth) 756 (by rfl) (by rfl)
set_option maxRecDepth 20000 in
theorem vX7_layWorth : Cond.selects yX7_layWorth.cls yX7_layWorth yX7_layWorth ∈ gtbl := gtbl_in (w := Cond.selects yX7_layWorth.cls yX7_layWorth yX7_layWorth) 20 (by rfl) (by rfl)
abbrev YX7_takes : MY := (RX7, cX7_takes, 5, (some .int), none)
set_option maxRecDepth 20000 in
theorem MX7_takes : MTH yX7_takes YX7_takes 2 := ⟨gtbl_in (w := Cond.initialized RX7) 29 (by rfl) (by rfl), gtbl_in (w := Cond.code yX7_takes cX7_takes 5 (some .int)) 753 (by rfl) (by rfl), by decide +kernel, by decide +kernel, rfl, rfl, by decide⟩
set_option maxRecDepth 20000 in
theorem iX7_takes : Cond.instanceMethod yX7_takes ∈ gtbl := gtbl_in (w := Cond.instanceMethod yX7_takes) 751 (by rfl) (by rfl)
set_option maxRecDepth 20000 in
theorem vX7_takes : Cond.selects yX7_takes.cls yX7_takes yX7_takes ∈ gtbl := gtbl_in (w := Cond.selects yX7_takes.cls yX7_takes yX7_takes) 752 (by rfl) (by rfl)
abbrev YX7_lowest : MY := (RX7, cX7_lowest, 11, (some .long), none)
set_option maxRecDepth 20000 in
theorem MX7_lowest : MTH yX7_lowest YX7_lowest 3 := ⟨gtbl_in (w := Cond.initialized RX7) 29 (by rfl) (by rfl), gtbl_in (w := Cond.code yX7_lowest cX7_lowest 11 (some .long)) 765 (by rfl) (by rfl), by decide +kernel, by decide +kernel, rfl, rfl, by decide⟩
set_option maxRecDepth 20000 in
theorem sX7_lowest : Cond.static yX7_lowest ∈ gtbl := gtbl_in (w := Cond.static yX7_lowest) 764 (by rfl) (by rfl)
abbrev YX7_lean : MY := (RX7, cX7_lean, 10, (some .long), none)
set_option maxRecDepth 20000 in
theorem MX7_lean : MTH yX7_lean YX7_lean 4 := ⟨gtbl_in (w := Cond.initialized RX7) 29 (by rfl) (by rfl), gtbl_in (w := Cond.code yX7_lean cX7_lean 10 (some .long)) 761 (by rfl) (by rfl), by decide +kernel, by decide +kernel, rfl, rfl, by decide⟩
set_option maxRecDepth 20000 in
theorem iX7_lean : Cond.instanceMethod yX7_lean ∈ gtbl := gtbl_in (w := Cond.instanceMethod yX7_lean) 759 (by rfl) (by rfl)
set_option maxRecDepth 20000 in
theorem vX7_lean : Cond.selects yX7_lean.cls yX7_lean yX7_lean ∈ gtbl := gtbl_in (w := Cond.selects yX7_lean.cls yX7_lean yX7_lean) 760 (by rfl) (by rfl)
abbrev YX7_year : MY := (RX7, cX7_year, 7, (some .int), none)
set_option maxRecDepth 20000 in
theorem MX7_year : MTH yX7_year YX7_year 3 := ⟨gtbl_in (w := Cond.initialized RX7) 29 (by rfl) (by rfl), gtbl_in (w := Cond.code yX7_year cX7_year 7 (some .int)) 769 (by rfl) (by rfl), by decide +kernel, by decide +kernel, rfl, rfl, by decide⟩
set_option maxRecDepth 20000 in
theorem iX7_year : Cond.instanceMethod yX7_year ∈ gtbl := gtbl_in (w := Cond.instanceMethod yX7_year) 767 (by rfl) (by rfl)
set_option maxRecDepth 20000 in
theorem vX7_year : Cond.selects yX7_year.cls yX7_year yX7_year ∈ gtbl := gtbl_in (w := Cond.selects yX7_year.cls yX7_year yX7_year) 768 (by rfl) (by rfl)
abbrev YX7_image : MY := (RX7, cX7_image, 4, (some .int), none)
set_option maxRecDepth 20000 in
theorem MX7_image : MTH yX7_image YX7_image 1 := ⟨gtbl_in (w := Cond.initialized RX7) 29 (by rfl) (by rfl), gtbl_in (w := Cond.code yX7_image cX7_image 4 (some .int)) 774 (by rfl) (by rfl), by decide +kernel, by decide +kernel, rfl, rfl, by decide⟩
set_option maxRecDepth 20000 in
theorem iX7_image : Cond.instanceMethod yX7_image ∈ gtbl := gtbl_in (w := Cond.instanceMethod yX7_image) 772 (by rfl) (by rfl)
set_option maxRecDepth 20000 in
theorem vX7_image : Cond.selects yX7_image.cls yX7_image yX7_image ∈ gtbl := gtbl_in (w := Cond.selects yX7_image.cls yX7_image yX7_image) 773 (by rfl) (by rfl)
abbrev YX7_restore : MY := (RX7, cX7_restore, 4, (some .int), none)
set_option maxRecDepth 20000 in
theorem MX7_restore : MTH yX7_restore YX7_restore 1 := ⟨gtbl_in (w := Cond.initialized RX7) 29 (by rfl) (by rfl), gtbl_in (w := Cond.code yX7_restore cX7_restore 4 (some .int)) 778 (by rfl) (by rfl), by decide +kernel, by decide +kernel, rfl, rfl, by decide⟩
set_option maxRecDepth 20000 in
theorem iX7_restore : Cond.instanceMethod yX7_restore ∈ gtbl := gtbl_in (w := Cond.instanceMethod yX7_restore) 776 (by rfl) (by rfl)
set_option maxRecDepth 20000 in
theorem vX7_restore : Cond.selects yX7_restore.cls yX7_restore yX7_restore ∈ gtbl := gtbl_in (w := Cond.selects yX7_restore.cls yX7_restore yX7_restore) 777 (by rfl) (by rfl)
abbrev YX7_told : MY := (RX7, cX7_told, 3, (some .int), none)
set_option maxRecDepth 20000 in
theorem MX7_told : MTH yX7_told YX7_told 1 := ⟨gtbl_in (w := Cond.initialized RX7) 29 (by rfl) (by rfl), gtbl_in (w := Cond.code yX7_told cX7_told 3 (some .int)) 782 (by rfl) (by rfl), by decide +kernel, by decide +kernel, rfl, rfl, by decide⟩
set_option maxRecDepth 20000 in
theorem iX7_told : Cond.instanceMethod yX7_told ∈ gtbl := gtbl_in (w := Cond.instanceMethod yX7_told) 780 (by rfl) (by rfl)
set_option maxRecDepth 20000 in
theorem vX7_told : Cond.selects yX7_told.cls yX7_told yX7_told ∈ gtbl := gtbl_in (w := Cond.selects yX7_told.cls yX7_told yX7_told) 781 (by rfl) (by rfl)
abbrev YJ6_bitCount_0f7a4 : MY := (RJ6, cJ6_bitCount_0f7a4, 1, (some .int), none)
set_option maxRecDepth 20000 in
theorem MJ6_bitCount_0f7a4 : MTH yJ6_bitCount_0f7a4 YJ6_bitCount_0f7a4 1 := ⟨gtbl_in (w := Cond.initialized RJ6) 30 (by rfl) (by rfl), gtbl_in (w := Cond.code yJ6_bitCount_0f7a4 cJ6_bitCount_0f7a4 1 (some .int)) 245 (by rfl) (by rfl), by decide +kernel, by decide +kernel, rfl, rfl, by decide⟩
set_option maxRecDepth 20000 in
theorem sJ6_bitCount_0f7a4 : Cond.static yJ6_bitCount_0f7a4 ∈ gtbl := gtbl_in (w := Cond.static yJ6_bitCount_0f7a4) 244 (by rfl) (by rfl)
abbrev YJ9_floorMod_7cf53 : MY := (RJ9, cJ9_floorMod_7cf53, 3, (some .int), none)
set_option maxRecDepth 20000 in
theorem MJ9_floorMod_7cf53 : MTH yJ9_floorMod_7cf53 YJ9_floorMod_7cf53 2 := ⟨gtbl_in (w := Cond.initialized RJ9) 31 (by rfl) (by rfl), gtbl_in (w := Cond.code yJ9_floorMod_7cf53 cJ9_floorMod_7cf53 3 (some .int)) 509 (by rfl) (by rfl), by decide +kernel, by decide +kernel, rfl, rfl, by decide⟩
set_option maxRecDepth 20000 in
theorem sJ9_floorMod_7cf53 : Cond.static yJ9_floorMod_7cf53 ∈ gtbl := gtbl_in (w := Cond.static yJ9_floorMod_7cf53) 508 (by rfl) (by rfl)
abbrev YJ9_abs_0f7a4 : MY := (RJ9, cJ9_abs_0f7a4, 1, (some .int), none)
set_option maxRecDepth 20000 in
theorem lm_abs : Cond.static Lib.Math.abs.name ∈ gtbl ∧ Cond.initialized "java/lang/Math" ∈ gtbl ∧ Cond.code Lib.Math.abs.name Lib.Math.abs.code 1 (some .int) ∈ gtbl := ⟨gtbl_in (w := Cond.static Lib.Math.abs.name) 340 (by rfl) (by rfl), gtbl_in (w := Cond.initialized "java/lang/Math") 31 (by rfl) (by rfl), gtbl_in (w := Cond.code Lib.Math.abs.name Lib.Math.abs.code 1 (some .int)) 341 (by rfl) (by rfl)⟩
abbrev YJ9_max_7cf53 : MY := (RJ9, cJ9_max_7cf53, 2, (some .int), none)
set_option maxRecDepth 20000 in
theorem lm_max : Cond.static Lib.Math.max.name ∈ gtbl ∧ Cond.initialized "java/lang/Math" ∈ gtbl ∧ Cond.code Lib.Math.max.name Lib.Math.max.code 2 (some .int) ∈ gtbl := ⟨gtbl_in (w := Cond.static Lib.Math.max.name) 343 (by rfl) (by rfl), gtbl_in (w := Cond.initialized "java/lang/Math") 31 (by rfl) (by rfl), gtbl_in (w := Cond.code Lib.Math.max.name Lib.Math.max.code 2 (some .int)) 344 (by rfl) (by rfl)⟩
abbrev YJ9_min_7cf53 : MY := (RJ9, cJ9_min_7cf53, 2, (some .int), none)
set_option maxRecDepth 20000 in
theorem lm_min : Cond.static Lib.Math.min.name ∈ gtbl ∧ Cond.initialized "java/lang/Math" ∈ gtbl ∧ Cond.code Lib.Math.min.name Lib.Math.min.code 2 (some .int) ∈ gtbl := ⟨gtbl_in (w := Cond.static Lib.Math.min.name) 511 (by rfl) (by rfl), gtbl_in (w := Cond.initialized "java/lang/Math") 31 (by rfl) (by rfl), gtbl_in (w := Cond.code Lib.Math.min.name Lib.Math.min.code 2 (some .int)) 512 (by rfl) (by rfl)⟩
set_option maxRecDepth 20000 in
theorem kL_9 : Cond.methodLink RL 9 yX6_init ∈ gtbl := gtbl_in (w := Cond.methodLink RL 9 yX6_init) 34 (by rfl) (by rfl)
set_option maxRecDepth 20000 in
theorem kX6_11 : Cond.methodLink RX6 11 yX0_init ∈ gtbl := gtbl_in (w := Cond.methodLink RX6 11 yX0_init) 42 (by rfl) (by rfl)
set_option maxRecDepth 20000 in
theorem kX6_18 : Cond.methodLink RX6 18 yX3_init ∈ gtbl := gtbl_in (w := Cond.methodLink RX6 18 yX3_init) 82 (by rfl) (by rfl)
set_option maxRecDepth 20000 in
theorem kX6_25 : Cond.methodLink RX6 25 yX4_init ∈ gtbl := gtbl_in (w := Cond.methodLink RX6 25 yX4_init) 98 (by rfl) (by rfl)
set_option maxRecDepth 20000 in
theorem kX6_32 : Cond.methodLink RX6 32 yX2_init ∈ gtbl := gtbl_in (w := Cond.methodLink RX6 32 yX2_init) 115 (by rfl) (by rfl)
set_option maxRecDepth 20000 in
theorem kX2_9 : Cond.methodLink RX2 9 yX0_init ∈ gtbl := gtbl_in (w := Cond.methodLink RX2 9 yX0_init) 120 (by rfl) (by rfl)
set_option maxRecDepth 20000 in
theorem kX2_18 : Cond.methodLink RX2 18 yX4_init ∈ gtbl := gtbl_in (w := Cond.methodLink RX2 18 yX4_init) 122 (by rfl) (by rfl)
set_option maxRecDepth 20000 in
theorem kX6_42 : Cond.methodLink RX6 42 yX5_init ∈ gtbl := gtbl_in (w := Cond.methodLink RX6 42 yX5_init) 137 (by rfl) (by rfl)
set_option maxRecDepth 20000 in
theorem kX5_11 : Cond.methodLink RX5 11 yX0_init ∈ gtbl := gtbl_in (w := Cond.methodLink RX5 11 yX0_init) 142 (by rfl) (by rfl)
set_option maxRecDepth 20000 in
theorem kX6_49 : Cond.methodLink RX6 49 yX1_init ∈ gtbl := gtbl_in (w := Cond.methodLink RX6 49 yX1_init) 174 (by rfl) (by rfl)
set_option maxRecDepth 20000 in
theorem kL_13 : Cond.methodLink RL 13 yX6_heap ∈ gtbl := gtbl_in (w := Cond.methodLink RL 13 yX6_heap) 216 (by rfl) (by rfl)
set_option maxRecDepth 20000 in
theorem kX6_65 : Cond.methodLink RX6 65 yX6_isHeap ∈ gtbl := gtbl_in (w := Cond.methodLink RX6 65 yX6_isHeap) 220 (by rfl) (by rfl)
set_option maxRecDepth 20000 in
theorem kX6_73 : Cond.methodLink RX6 73 yX6_isIn ∈ gtbl := gtbl_in (w := Cond.methodLink RX6 73 yX6_isIn) 224 (by rfl) (by rfl)
set_option maxRecDepth 20000 in
theorem kX6_79 : Cond.methodLink RX6 79 yX0_isTakenByAnother ∈ gtbl := gtbl_in (w := Cond.methodLink RX6 79 yX0_isTakenByAnother) 230 (by rfl) (by rfl)
set_option maxRecDepth 20000 in
theorem kX6_86 : Cond.methodLink RX6 86 yX0_put ∈ gtbl := gtbl_in (w := Cond.methodLink RX6 86 yX0_put) 234 (by rfl) (by rfl)
set_option maxRecDepth 20000 in
theorem kL_18 : Cond.methodLink RL 18 yX6_burners ∈ gtbl := gtbl_in (w := Cond.methodLink RL 18 yX6_burners) 238 (by rfl) (by rfl)
set_option maxRecDepth 20000 in
theorem kX6_95 : Cond.methodLink RX6 95 yJ6_bitCount_0f7a4 ∈ gtbl := gtbl_in (w := Cond.methodLink RX6 95 yJ6_bitCount_0f7a4) 243 (by rfl) (by rfl)
set_option maxRecDepth 20000 in
theorem kL_23 : Cond.methodLink RL 23 yX6_say ∈ gtbl := gtbl_in (w := Cond.methodLink RL 23 yX6_say) 249 (by rfl) (by rfl)
set_option maxRecDepth 20000 in
theorem kX6_108 : Cond.methodLink RX6 108 yX3_append ∈ gtbl := gtbl_in (w := Cond.methodLink RX6 108 yX3_append) 255 (by rfl) (by rfl)
set_option maxRecDepth 20000 in
theorem kL_27 : Cond.methodLink RL 27 yX6_wipe ∈ gtbl := gtbl_in (w := Cond.methodLink RL 27 yX6_wipe) 259 (by rfl) (by rfl)
set_option maxRecDepth 20000 in
theorem kL_32 : Cond.methodLink RL 32 yX6_fault ∈ gtbl := gtbl_in (w := Cond.methodLink RL 32 yX6_fault) 263 (by rfl) (by rfl)
set_option maxRecDepth 20000 in
theorem kX6_114 : Cond.methodLink RX6 114 yX3_faultPlace ∈ gtbl := gtbl_in (w := Cond.methodLink RX6 114 yX3_faultPlace) 267 (by rfl) (by rfl)
set_option maxRecDepth 20000 in
theorem kX3_19 : Cond.methodLink RX3 19 yX3_isHeapLetter ∈ gtbl := gtbl_in (w := Cond.methodLink RX3 19 yX3_isHeapLetter) 271 (by rfl) (by rfl)
set_option maxRecDepth 20000 in
theorem kX3_23 : Cond.methodLink RX3 23 yX3_isDeed ∈ gtbl := gtbl_in (w := Cond.methodLink RX3 23 yX3_isDeed) 277 (by rfl) (by rfl)
set_option maxRecDepth 20000 in
theorem kX3_38 : Cond.methodLink RX3 38 yX3_isCellLetter ∈ gtbl := gtbl_in (w := Cond.methodLink RX3 38 yX3_isCellLetter) 280 (by rfl) (by rfl)
set_option maxRecDepth 20000 in
theorem kL_36 : Cond.methodLink RL 36 yX6_judge ∈ gtbl := gtbl_in (w := Cond.methodLink RL 36 yX6_judge) 285 (by rfl) (by rfl)
set_option maxRecDepth 20000 in
theorem kX6_118 : Cond.methodLink RX6 118 yX5_tryOut ∈ gtbl := gtbl_in (w := Cond.methodLink RX6 118 yX5_tryOut) 289 (by rfl) (by rfl)
set_option maxRecDepth 20000 in
theorem kX5_18 : Cond.methodLink RX5 18 yX5_begin ∈ gtbl := gtbl_in (w := Cond.methodLink RX5 18 yX5_begin) 293 (by rfl) (by rfl)
set_option maxRecDepth 20000 in
theorem kX5_64 : Cond.methodLink RX5 64 yX0_copyFrom ∈ gtbl := gtbl_in (w := Cond.methodLink RX5 64 yX0_copyFrom) 297 (by rfl) (by rfl)
set_option maxRecDepth 20000 in
theorem kX5_22 : Cond.methodLink RX5 22 yX3_faultPlace ∈ gtbl := gtbl_in (w := Cond.methodLink RX5 22 yX3_faultPlace) 301 (by rfl) (by rfl)
set_option maxRecDepth 20000 in
theorem kX5_36 : Cond.methodLink RX5 36 yX3_isHeapLetter ∈ gtbl := gtbl_in (w := Cond.methodLink RX5 36 yX3_isHeapLetter) 302 (by rfl) (by rfl)
set_option maxRecDepth 20000 in
theorem kX5_40 : Cond.methodLink RX5 40 yX3_kindOf ∈ gtbl := gtbl_in (w := Cond.methodLink RX5 40 yX3_kindOf) 303 (by rfl) (by rfl)
set_option maxRecDepth 20000 in
theorem kX5_44 : Cond.methodLink RX5 44 yX0_reasonAgainst ∈ gtbl := gtbl_in (w := Cond.methodLink RX5 44 yX0_reasonAgainst) 306 (by rfl) (by rfl)
set_option maxRecDepth 20000 in
theorem kX0_61 : Cond.methodLink RX0 61 yX0_isTakenByAnother ∈ gtbl := gtbl_in (w := Cond.methodLink RX0 61 yX0_isTakenByAnother) 310 (by rfl) (by rfl)
set_option maxRecDepth 20000 in
theorem kX0_57 : Cond.methodLink RX0 57 yX0_isAlight ∈ gtbl := gtbl_in (w := Cond.methodLink RX0 57 yX0_isAlight) 311 (by rfl) (by rfl)
set_option maxRecDepth 20000 in
theorem kX0_64 : Cond.methodLink RX0 64 yJ6_bitCount_0f7a4 ∈ gtbl := gtbl_in (w := Cond.methodLink RX0 64 yJ6_bitCount_0f7a4) 318 (by rfl) (by rfl)
set_option maxRecDepth 20000 in
theorem kX5_57 : Cond.methodLink RX5 57 yX0_perform ∈ gtbl := gtbl_in (w := Cond.methodLink RX5 57 yX0_perform) 319 (by rfl) (by rfl)
set_option maxRecDepth 20000 in
theorem kX0_69 : Cond.methodLink RX0 69 yX0_passNight ∈ gtbl := gtbl_in (w := Cond.methodLink RX0 69 yX0_passNight) 323 (by rfl) (by rfl)
set_option maxRecDepth 20000 in
theorem kX0_73 : Cond.methodLink RX0 73 yX0_smoulder ∈ gtbl := gtbl_in (w := Cond.methodLink RX0 73 yX0_smoulder) 327 (by rfl) (by rfl)
set_option maxRecDepth 20000 in
theorem kX0_53 : Cond.methodLink RX0 53 yX0_countNear ∈ gtbl := gtbl_in (w := Cond.methodLink RX0 53 yX0_countNear) 331 (by rfl) (by rfl)
set_option maxRecDepth 20000 in
theorem kX0_47 : Cond.methodLink RX0 47 yX0_areNear ∈ gtbl := gtbl_in (w := Cond.methodLink RX0 47 yX0_areNear) 335 (by rfl) (by rfl)
set_option maxRecDepth 20000 in
theorem kX0_37 : Cond.methodLink RX0 37 Lib.Math.abs.name ∈ gtbl := gtbl_in (w := Cond.methodLink RX0 37 Lib.Math.abs.name) 339 (by rfl) (by rfl)
set_option maxRecDepth 20000 in
theorem kX0_76 : Cond.methodLink RX0 76 Lib.Math.max.name ∈ gtbl := gtbl_in (w := Cond.methodLink RX0 76 Lib.Math.max.name) 342 (by rfl) (by rfl)
set_option maxRecDepth 20000 in
theorem kX5_60 : Cond.methodLink RX5 60 yX5_noteFlares ∈ gtbl := gtbl_in (w := Cond.methodLink RX5 60 yX5_noteFlares) 345 (by rfl) (by rfl)
set_option maxRecDepth 20000 in
theorem kX5_76 : Cond.methodLink RX5 76 yJ6_bitCount_0f7a4 ∈ gtbl := gtbl_in (w := Cond.methodLink RX5 76 yJ6_bitCount_0f7a4) 349 (by rfl) (by rfl)
set_option maxRecDepth 20000 in
theorem kL_40 : Cond.methodLink RL 40 yX6_done ∈ gtbl := gtbl_in (w := Cond.methodLink RL 40 yX6_done) 351 (by rfl) (by rfl)
set_option maxRecDepth 20000 in
theorem kX6_131 : Cond.methodLink RX6 131 yX0_copyFrom ∈ gtbl := gtbl_in (w := Cond.methodLink RX6 131 yX0_copyFrom) 355 (by rfl) (by rfl)
set_option maxRecDepth 20000 in
theorem kL_44 : Cond.methodLink RL 44 yX6_behind ∈ gtbl := gtbl_in (w := Cond.methodLink RL 44 yX6_behind) 356 (by rfl) (by rfl)
set_option maxRecDepth 20000 in
theorem kL_49 : Cond.methodLink RL 49 yX6_then ∈ gtbl := gtbl_in (w := Cond.methodLink RL 49 yX6_then) 361 (by rfl) (by rfl)
set_option maxRecDepth 20000 in
theorem kL_53 : Cond.methodLink RL 53 yX6_chain ∈ gtbl := gtbl_in (w := Cond.methodLink RL 53 yX6_chain) 365 (by rfl) (by rfl)
set_option maxRecDepth 20000 in
theorem kX6_164 : Cond.methodLink RX6 164 yX0_isAlight ∈ gtbl := gtbl_in (w := Cond.methodLink RX6 164 yX0_isAlight) 369 (by rfl) (by rfl)
set_option maxRecDepth 20000 in
theorem kX6_167 : Cond.methodLink RX6 167 yX0_flaringBy ∈ gtbl := gtbl_in (w := Cond.methodLink RX6 167 yX0_flaringBy) 370 (by rfl) (by rfl)
set_option maxRecDepth 20000 in
theorem kX0_50 : Cond.methodLink RX0 50 yX0_canCatch ∈ gtbl := gtbl_in (w := Cond.methodLink RX0 50 yX0_canCatch) 374 (by rfl) (by rfl)
set_option maxRecDepth 20000 in
theorem kL_57 : Cond.methodLink RL 57 yX6_cover ∈ gtbl := gtbl_in (w := Cond.methodLink RL 57 yX6_cover) 378 (by rfl) (by rfl)
set_option maxRecDepth 20000 in
theorem kX6_171 : Cond.methodLink RX6 171 yX6_fewestCovered ∈ gtbl := gtbl_in (w := Cond.methodLink RX6 171 yX6_fewestCovered) 382 (by rfl) (by rfl)
set_option maxRecDepth 20000 in
theorem kX6_174 : Cond.methodLink RX6 174 yX6_hasBit ∈ gtbl := gtbl_in (w := Cond.methodLink RX6 174 yX6_hasBit) 386 (by rfl) (by rfl)
set_option maxRecDepth 20000 in
theorem kL_64 : Cond.methodLink RL 64 yX6_due ∈ gtbl := gtbl_in (w := Cond.methodLink RL 64 yX6_due) 387 (by rfl) (by rfl)
set_option maxRecDepth 20000 in
theorem kX6_179 : Cond.methodLink RX6 179 yX1_readNights ∈ gtbl := gtbl_in (w := Cond.methodLink RX6 179 yX1_readNights) 392 (by rfl) (by rfl)
set_option maxRecDepth 20000 in
theorem kX6_182 : Cond.methodLink RX6 182 yX1_readDays ∈ gtbl := gtbl_in (w := Cond.methodLink RX6 182 yX1_readDays) 396 (by rfl) (by rfl)
set_option maxRecDepth 20000 in
theorem kX6_186 : Cond.methodLink RX6 186 yX1_mostInTime ∈ gtbl := gtbl_in (w := Cond.methodLink RX6 186 yX1_mostInTime) 401 (by rfl) (by rfl)
set_option maxRecDepth 20000 in
theorem kX1_20 : Cond.methodLink RX1 20 yJ6_bitCount_0f7a4 ∈ gtbl := gtbl_in (w := Cond.methodLink RX1 20 yJ6_bitCount_0f7a4) 405 (by rfl) (by rfl)
set_option maxRecDepth 20000 in
theorem kX1_26 : Cond.methodLink RX1 26 yX1_areInTime ∈ gtbl := gtbl_in (w := Cond.methodLink RX1 26 yX1_areInTime) 406 (by rfl) (by rfl)
set_option maxRecDepth 20000 in
theorem kX1_33 : Cond.methodLink RX1 33 yX1_nightsUntil ∈ gtbl := gtbl_in (w := Cond.methodLink RX1 33 yX1_nightsUntil) 411 (by rfl) (by rfl)
set_option maxRecDepth 20000 in
theorem kL_69 : Cond.methodLink RL 69 yX6_nods ∈ gtbl := gtbl_in (w := Cond.methodLink RL 69 yX6_nods) 415 (by rfl) (by rfl)
set_option maxRecDepth 20000 in
theorem kX6_191 : Cond.methodLink RX6 191 yX6_firstNightAsleep ∈ gtbl := gtbl_in (w := Cond.methodLink RX6 191 yX6_firstNightAsleep) 420 (by rfl) (by rfl)
set_option maxRecDepth 20000 in
theorem kX6_198 : Cond.methodLink RX6 198 yX6_isAsleep ∈ gtbl := gtbl_in (w := Cond.methodLink RX6 198 yX6_isAsleep) 423 (by rfl) (by rfl)
set_option maxRecDepth 20000 in
theorem kX6_195 : Cond.methodLink RX6 195 yX6_nightsAsleep ∈ gtbl := gtbl_in (w := Cond.methodLink RX6 195 yX6_nightsAsleep) 426 (by rfl) (by rfl)
set_option maxRecDepth 20000 in
theorem kL_74 : Cond.methodLink RL 74 yX6_seen ∈ gtbl := gtbl_in (w := Cond.methodLink RL 74 yX6_seen) 429 (by rfl) (by rfl)
set_option maxRecDepth 20000 in
theorem kX6_204 : Cond.methodLink RX6 204 yX4_append ∈ gtbl := gtbl_in (w := Cond.methodLink RX6 204 yX4_append) 434 (by rfl) (by rfl)
set_option maxRecDepth 20000 in
theorem kL_78 : Cond.methodLink RL 78 yX6_forget ∈ gtbl := gtbl_in (w := Cond.methodLink RL 78 yX6_forget) 438 (by rfl) (by rfl)
set_option maxRecDepth 20000 in
theorem kL_82 : Cond.methodLink RL 82 yX6_matter ∈ gtbl := gtbl_in (w := Cond.methodLink RL 82 yX6_matter) 442 (by rfl) (by rfl)
set_option maxRecDepth 20000 in
theorem kX6_207 : Cond.methodLink RX6 207 yX4_listFitting ∈ gtbl := gtbl_in (w := Cond.methodLink RX6 207 yX4_listFitting) 446 (by rfl) (by rfl)
set_option maxRecDepth 20000 in
theorem kX4_26 : Cond.methodLink RX4 26 yX4_fit ∈ gtbl := gtbl_in (w := Cond.methodLink RX4 26 yX4_fit) 450 (by rfl) (by rfl)
set_option maxRecDepth 20000 in
theorem kL_86 : Cond.methodLink RL 86 yX6_ask ∈ gtbl := gtbl_in (w := Cond.methodLink RL 86 yX6_ask) 457 (by rfl) (by rfl)
set_option maxRecDepth 20000 in
theorem kX6_211 : Cond.methodLink RX6 211 yX6_mostLeft ∈ gtbl := gtbl_in (w := Cond.methodLink RX6 211 yX6_mostLeft) 461 (by rfl) (by rfl)
set_option maxRecDepth 20000 in
theorem kX6_214 : Cond.methodLink RX6 214 yX6_countLeft ∈ gtbl := gtbl_in (w := Cond.methodLink RX6 214 yX6_countLeft) 465 (by rfl) (by rfl)
set_option maxRecDepth 20000 in
theorem kX6_223 : Cond.methodLink RX6 223 yX6_colourOf ∈ gtbl := gtbl_in (w := Cond.methodLink RX6 223 yX6_colourOf) 469 (by rfl) (by rfl)
set_option maxRecDepth 20000 in
theorem kX6_218 : Cond.methodLink RX6 218 Lib.Math.max.name ∈ gtbl := gtbl_in (w := Cond.methodLink RX6 218 Lib.Math.max.name) 470 (by rfl) (by rfl)
set_option maxRecDepth 20000 in
theorem kL_90 : Cond.methodLink RL 90 yX6_takes ∈ gtbl := gtbl_in (w := Cond.methodLink RL 90 yX6_takes) 471 (by rfl) (by rfl)
set_option maxRecDepth 20000 in
theorem kX6_228 : Cond.methodLink RX6 228 yX6_learnRowValues ∈ gtbl := gtbl_in (w := Cond.methodLink RX6 228 yX6_learnRowValues) 476 (by rfl) (by rfl)
set_option maxRecDepth 20000 in
theorem kX6_235 : Cond.methodLink RX6 235 yX6_leastNotReached ∈ gtbl := gtbl_in (w := Cond.methodLink RX6 235 yX6_leastNotReached) 480 (by rfl) (by rfl)
set_option maxRecDepth 20000 in
theorem kX6_232 : Cond.methodLink RX6 232 yX6_winningTake ∈ gtbl := gtbl_in (w := Cond.methodLink RX6 232 yX6_winningTake) 484 (by rfl) (by rfl)
set_option maxRecDepth 20000 in
theorem kL_94 : Cond.methodLink RL 94 yX6_lean ∈ gtbl := gtbl_in (w := Cond.methodLink RL 94 yX6_lean) 488 (by rfl) (by rfl)
set_option maxRecDepth 20000 in
theorem kX6_244 : Cond.methodLink RX6 244 yX6_inLowestTerms ∈ gtbl := gtbl_in (w := Cond.methodLink RX6 244 yX6_inLowestTerms) 495 (by rfl) (by rfl)
set_option maxRecDepth 20000 in
theorem kX6_248 : Cond.methodLink RX6 248 yX6_greatestDivisor ∈ gtbl := gtbl_in (w := Cond.methodLink RX6 248 yX6_greatestDivisor) 498 (by rfl) (by rfl)
set_option maxRecDepth 20000 in
theorem kL_99 : Cond.methodLink RL 99 yX6_year ∈ gtbl := gtbl_in (w := Cond.methodLink RL 99 yX6_year) 501 (by rfl) (by rfl)
set_option maxRecDepth 20000 in
theorem kX6_255 : Cond.methodLink RX6 255 yJ9_floorMod_7cf53 ∈ gtbl := gtbl_in (w := Cond.methodLink RX6 255 yJ9_floorMod_7cf53) 507 (by rfl) (by rfl)
set_option maxRecDepth 20000 in
theorem kX6_258 : Cond.methodLink RX6 258 Lib.Math.min.name ∈ gtbl := gtbl_in (w := Cond.methodLink RX6 258 Lib.Math.min.name) 510 (by rfl) (by rfl)
set_option maxRecDepth 20000 in
theorem kX6_261 : Cond.methodLink RX6 261 yX0_reasonAgainst ∈ gtbl := gtbl_in (w := Cond.methodLink RX6 261 yX0_reasonAgainst) 513 (by rfl) (by rfl)
set_option maxRecDepth 20000 in
theorem kX6_264 : Cond.methodLink RX6 264 yX0_perform ∈ gtbl := gtbl_in (w := Cond.methodLink RX6 264 yX0_perform) 514 (by rfl) (by rfl)
set_option maxRecDepth 20000 in
theorem kX6_267 : Cond.methodLink RX6 267 yX0_heatOfAll ∈ gtbl := gtbl_in (w := Cond.methodLink RX6 267 yX0_heatOfAll) 515 (by rfl) (by rfl)
set_option maxRecDepth 20000 in
theorem kL_103 : Cond.methodLink RL 103 yX6_image ∈ gtbl := gtbl_in (w := Cond.methodLink RL 103 yX6_image) 519 (by rfl) (by rfl)
set_option maxRecDepth 20000 in
theorem kX6_274 : Cond.methodLink RX6 274 yX4_copyFrom ∈ gtbl := gtbl_in (w := Cond.methodLink RX6 274 yX4_copyFrom) 523 (by rfl) (by rfl)
set_option maxRecDepth 20000 in
theorem kL_107 : Cond.methodLink RL 107 yX6_restore ∈ gtbl := gtbl_in (w := Cond.methodLink RL 107 yX6_restore) 527 (by rfl) (by rfl)
set_option maxRecDepth 20000 in
theorem kL_111 : Cond.methodLink RL 111 yX6_told ∈ gtbl := gtbl_in (w := Cond.methodLink RL 111 yX6_told) 531 (by rfl) (by rfl)
set_option maxRecDepth 20000 in
theorem kX6_281 : Cond.methodLink RX6 281 yX6_toldOfHeap ∈ gtbl := gtbl_in (w := Cond.methodLink RX6 281 yX6_toldOfHeap) 535 (by rfl) (by rfl)
set_option maxRecDepth 20000 in
theorem kL_12 : Cond.methodLink RL 12 yX7_init ∈ gtbl := gtbl_in (w := Cond.methodLink RL 12 yX7_init) 541 (by rfl) (by rfl)
set_option maxRecDepth 20000 in
theorem kL_17 : Cond.methodLink RL 17 yX7_heap ∈ gtbl := gtbl_in (w := Cond.methodLink RL 17 yX7_heap) 607 (by rfl) (by rfl)
set_option maxRecDepth 20000 in
theorem kX7_52 : Cond.methodLink RX7 52 yX7_isHeap ∈ gtbl := gtbl_in (w := Cond.methodLink RX7 52 yX7_isHeap) 611 (by rfl) (by rfl)
set_option maxRecDepth 20000 in
theorem kX7_48 : Cond.methodLink RX7 48 yX7_in ∈ gtbl := gtbl_in (w := Cond.methodLink RX7 48 yX7_in) 614 (by rfl) (by rfl)
set_option maxRecDepth 20000 in
theorem kL_22 : Cond.methodLink RL 22 yX7_burners ∈ gtbl := gtbl_in (w := Cond.methodLink RL 22 yX7_burners) 617 (by rfl) (by rfl)
set_option maxRecDepth 20000 in
theorem kX7_56 : Cond.methodLink RX7 56 yX7_bits ∈ gtbl := gtbl_in (w := Cond.methodLink RX7 56 yX7_bits) 621 (by rfl) (by rfl)
set_option maxRecDepth 20000 in
theorem kL_26 : Cond.methodLink RL 26 yX7_say ∈ gtbl := gtbl_in (w := Cond.methodLink RL 26 yX7_say) 624 (by rfl) (by rfl)
set_option maxRecDepth 20000 in
theorem kL_31 : Cond.methodLink RL 31 yX7_wipe ∈ gtbl := gtbl_in (w := Cond.methodLink RL 31 yX7_wipe) 628 (by rfl) (by rfl)
set_option maxRecDepth 20000 in
theorem kL_35 : Cond.methodLink RL 35 yX7_fault ∈ gtbl := gtbl_in (w := Cond.methodLink RL 35 yX7_fault) 632 (by rfl) (by rfl)
set_option maxRecDepth 20000 in
theorem kX7_63 : Cond.methodLink RX7 63 yX7_faultOf ∈ gtbl := gtbl_in (w := Cond.methodLink RX7 63 yX7_faultOf) 636 (by rfl) (by rfl)
set_option maxRecDepth 20000 in
theorem kL_39 : Cond.methodLink RL 39 yX7_judge ∈ gtbl := gtbl_in (w := Cond.methodLink RL 39 yX7_judge) 640 (by rfl) (by rfl)
set_option maxRecDepth 20000 in
theorem kX7_117 : Cond.methodLink RX7 117 yX7_goWeeks ∈ gtbl := gtbl_in (w := Cond.methodLink RX7 117 yX7_goWeeks) 644 (by rfl) (by rfl)
set_option maxRecDepth 20000 in
theorem kX7_93 : Cond.methodLink RX7 93 yX7_asNow ∈ gtbl := gtbl_in (w := Cond.methodLink RX7 93 yX7_asNow) 648 (by rfl) (by rfl)
set_option maxRecDepth 20000 in
theorem kX7_99 : Cond.methodLink RX7 99 yX7_endNight ∈ gtbl := gtbl_in (w := Cond.methodLink RX7 99 yX7_endNight) 652 (by rfl) (by rfl)
set_option maxRecDepth 20000 in
theorem kX7_87 : Cond.methodLink RX7 87 yX7_burn ∈ gtbl := gtbl_in (w := Cond.methodLink RX7 87 yX7_burn) 656 (by rfl) (by rfl)
set_option maxRecDepth 20000 in
theorem kX7_80 : Cond.methodLink RX7 80 yX7_has ∈ gtbl := gtbl_in (w := Cond.methodLink RX7 80 yX7_has) 660 (by rfl) (by rfl)
set_option maxRecDepth 20000 in
theorem kX7_84 : Cond.methodLink RX7 84 yX7_areNear ∈ gtbl := gtbl_in (w := Cond.methodLink RX7 84 yX7_areNear) 663 (by rfl) (by rfl)
set_option maxRecDepth 20000 in
theorem kX7_76 : Cond.methodLink RX7 76 yX7_off ∈ gtbl := gtbl_in (w := Cond.methodLink RX7 76 yX7_off) 666 (by rfl) (by rfl)
set_option maxRecDepth 20000 in
theorem kX7_105 : Cond.methodLink RX7 105 yX7_turf ∈ gtbl := gtbl_in (w := Cond.methodLink RX7 105 yX7_turf) 669 (by rfl) (by rfl)
set_option maxRecDepth 20000 in
theorem kX7_108 : Cond.methodLink RX7 108 yX7_kindle ∈ gtbl := gtbl_in (w := Cond.methodLink RX7 108 yX7_kindle) 673 (by rfl) (by rfl)
set_option maxRecDepth 20000 in
theorem kX7_111 : Cond.methodLink RX7 111 yX7_watch ∈ gtbl := gtbl_in (w := Cond.methodLink RX7 111 yX7_watch) 677 (by rfl) (by rfl)
set_option maxRecDepth 20000 in
theorem kX7_114 : Cond.methodLink RX7 114 yX7_stack ∈ gtbl := gtbl_in (w := Cond.methodLink RX7 114 yX7_stack) 681 (by rfl) (by rfl)
set_option maxRecDepth 20000 in
theorem kL_43 : Cond.methodLink RL 43 yX7_done ∈ gtbl := gtbl_in (w := Cond.methodLink RL 43 yX7_done) 685 (by rfl) (by rfl)
set_option maxRecDepth 20000 in
theorem kX7_120 : Cond.methodLink RX7 120 yX7_barOfWeeks ∈ gtbl := gtbl_in (w := Cond.methodLink RX7 120 yX7_barOfWeeks) 689 (by rfl) (by rfl)
set_option maxRecDepth 20000 in
theorem kL_48 : Cond.methodLink RL 48 yX7_behind ∈ gtbl := gtbl_in (w := Cond.methodLink RL 48 yX7_behind) 693 (by rfl) (by rfl)
set_option maxRecDepth 20000 in
theorem kL_52 : Cond.methodLink RL 52 yX7_then ∈ gtbl := gtbl_in (w := Cond.methodLink RL 52 yX7_then) 697 (by rfl) (by rfl)
set_option maxRecDepth 20000 in
theorem kL_56 : Cond.methodLink RL 56 yX7_chain ∈ gtbl := gtbl_in (w := Cond.methodLink RL 56 yX7_chain) 701 (by rfl) (by rfl)
set_option maxRecDepth 20000 in
theorem kX7_123 : Cond.methodLink RX7 123 yX7_chainOf ∈ gtbl := gtbl_in (w := Cond.methodLink RX7 123 yX7_chainOf) 705 (by rfl) (by rfl)
set_option maxRecDepth 20000 in
theorem kL_61 : Cond.methodLink RL 61 yX7_cover ∈ gtbl := gtbl_in (w := Cond.methodLink RL 61 yX7_cover) 709 (by rfl) (by rfl)
set_option maxRecDepth 20000 in
theorem kL_68 : Cond.methodLink RL 68 yX7_due ∈ gtbl := gtbl_in (w := Cond.methodLink RL 68 yX7_due) 713 (by rfl) (by rfl)
set_option maxRecDepth 20000 in
theorem kX7_128 : Cond.methodLink RX7 128 yX7_canBeDrawn ∈ gtbl := gtbl_in (w := Cond.methodLink RX7 128 yX7_canBeDrawn) 718 (by rfl) (by rfl)
set_option maxRecDepth 20000 in
theorem kL_73 : Cond.methodLink RL 73 yX7_nods ∈ gtbl := gtbl_in (w := Cond.methodLink RL 73 yX7_nods) 722 (by rfl) (by rfl)
set_option maxRecDepth 20000 in
theorem kL_77 : Cond.methodLink RL 77 yX7_seen ∈ gtbl := gtbl_in (w := Cond.methodLink RL 77 yX7_seen) 726 (by rfl) (by rfl)
set_option maxRecDepth 20000 in
theorem kL_81 : Cond.methodLink RL 81 yX7_forget ∈ gtbl := gtbl_in (w := Cond.methodLink RL 81 yX7_forget) 730 (by rfl) (by rfl)
set_option maxRecDepth 20000 in
theorem kL_85 : Cond.methodLink RL 85 yX7_matter ∈ gtbl := gtbl_in (w := Cond.methodLink RL 85 yX7_matter) 734 (by rfl) (by rfl)
set_option maxRecDepth 20000 in
theorem kX7_137 : Cond.methodLink RX7 137 yX7_isFit ∈ gtbl := gtbl_in (w := Cond.methodLink RX7 137 yX7_isFit) 738 (by rfl) (by rfl)
set_option maxRecDepth 20000 in
theorem kX7_134 : Cond.methodLink RX7 134 yX7_colour ∈ gtbl := gtbl_in (w := Cond.methodLink RX7 134 yX7_colour) 742 (by rfl) (by rfl)
set_option maxRecDepth 20000 in
theorem kL_89 : Cond.methodLink RL 89 yX7_ask ∈ gtbl := gtbl_in (w := Cond.methodLink RL 89 yX7_ask) 745 (by rfl) (by rfl)
set_option maxRecDepth 20000 in
theorem kL_93 : Cond.methodLink RL 93 yX7_takes ∈ gtbl := gtbl_in (w := Cond.methodLink RL 93 yX7_takes) 750 (by rfl) (by rfl)
set_option maxRecDepth 20000 in
theorem kX7_141 : Cond.methodLink RX7 141 yX7_layWorth ∈ gtbl := gtbl_in (w := Cond.methodLink RX7 141 yX7_layWorth) 754 (by rfl) (by rfl)
set_option maxRecDepth 20000 in
theorem kL_98 : Cond.methodLink RL 98 yX7_lean ∈ gtbl := gtbl_in (w := Cond.methodLink RL 98 yX7_lean) 758 (by rfl) (by rfl)
set_option maxRecDepth 20000 in
theorem kX7_147 : Cond.methodLink RX7 147 yX7_lowest ∈ gtbl := gtbl_in (w := Cond.methodLink RX7 147 yX7_lowest) 763 (by rfl) (by rfl)
set_option maxRecDepth 20000 in
theorem kL_102 : Cond.methodLink RL 102 yX7_year ∈ gtbl := gtbl_in (w := Cond.methodLink RL 102 yX7_year) 766 (by rfl) (by rfl)
set_option maxRecDepth 20000 in
theorem kL_106 : Cond.methodLink RL 106 yX7_image ∈ gtbl := gtbl_in (w := Cond.methodLink RL 106 yX7_image) 771 (by rfl) (by rfl)
set_option maxRecDepth 20000 in
theorem kL_110 : Cond.methodLink RL 110 yX7_restore ∈ gtbl := gtbl_in (w := Cond.methodLink RL 110 yX7_restore) 775 (by rfl) (by rfl)
set_option maxRecDepth 20000 in
theorem kL_114 : Cond.methodLink RL 114 yX7_told ∈ gtbl := gtbl_in (w := Cond.methodLink RL 114 yX7_told) 779 (by rfl) (by rfl)
theorem nX3_30 : (RX3, 30, yX6_isIn, RX6) ∈ nests := List.mem_of_getElem? (i := 0) rfl
theorem nX0_43 : (RX0, 43, yX6_hasBit, RX6) ∈ nests := List.mem_of_getElem? (i := 1) rfl
theorem nX5_81 : (RX5, 81, yX6_hasBit, RX6) ∈ nests := List.mem_of_getElem? (i := 2) rfl
theorem nX1_30 : (RX1, 30, yX6_hasBit, RX6) ∈ nests := List.mem_of_getElem? (i := 3) rfl
theorem nX4_22 : (RX4, 22, yX6_colourOf, RX6) ∈ nests := List.mem_of_getElem? (i := 4) rfl
theorem E_mmax {Y : MY} {d pc index : Nat} {l st : List Value} {hp : HP} {Q : Option Value → HP → Prop} {x y : Int32} (hd : decode Y.2.1 pc = .ok (.invokestatic index, 3)) (hlk : Cond.methodLink Y.1 index Lib.Math.max.name ∈ gtbl) (hroom : (st.map fun v => v.category).sum ≤ 8) (kk : E Y (d + 1) (pc + 3) l (.int (if x < y then y else x) :: st) hp Q) : E Y (d + 1) pc l (.int y :: .int x :: st) hp Q := by
  intro p lch e R s m args below meth c H locs cells slots ad D cI cZ A H0 Qm ls hC hW hl hR
  have hts : ∀ w ∈ gtbl, w.before args s = true := hC.2.2.2.2.2.2.1
  have h1 := hC.2.2.2.2.2.2.2.2.1
  have h2 := hC.2.2.2.2.2.2.2.2.2.1
  exact va_mmax hC.1 hC.2.1 (hC.2.2.1.trans hl.1.symm) hC.2.2.2.2.2.1 (hts _ hlk) (hts _ lm_max.1) (hts _ lm_max.2.1) (hts _ lm_max.2.2) (by omega) (by rw [sum_cat]; omega) hC.2.2.2.2.2.2.2.2.2.2.1 hC.2.2.2.2.2.2.2.2.2.2.2 hd (kk p lch e R s m args below meth c H locs cells slots ad D cI cZ A H0 Qm ls hC hW hl hR)
theorem E_mmin {Y : MY} {d pc index : Nat} {l st : List Value} {hp : HP} {Q : Option Value → HP → Prop} {x y : Int32} (hd : decode Y.2.1 pc = .ok (.invokestatic index, 3)) (hlk : Cond.methodLink Y.1 index Lib.Math.min.name ∈ gtbl) (hroom : (st.map fun v => v.category).sum ≤ 8) (kk : E Y (d + 1) (pc + 3) l (.int (if y < x then y else x) :: st) hp Q) : E Y (d + 1) pc l (.int y :: .int x :: st) hp Q := by
  intro p lch e R s m args below meth c H locs cells slots ad D cI cZ A H0 Qm ls hC hW hl hR
  have hts : ∀ w ∈ gtbl, w.before args s = true := hC.2.2.2.2.2.2.1
  have h1 := hC.2.2.2.2.2.2.2.2.1
  have h2 := hC.2.2.2.2.2.2.2.2.2.1
  exact va_mmin hC.1 hC.2.1 (hC.2.2.1.trans hl.1.symm) hC.2.2.2.2.2.1 (hts _ hlk) (hts _ lm_min.1) (hts _ lm_min.2.1) (hts _ lm_min.2.2) (by omega) (by rw [sum_cat]; omega) hC.2.2.2.2.2.2.2.2.2.2.1 hC.2.2.2.2.2.2.2.2.2.2.2 hd (kk p lch e R s m args below meth c H locs cells slots ad D cI cZ A H0 Qm ls hC hW hl hR)
theorem E_mabs {Y : MY} {d pc index : Nat} {l st : List Value} {hp : HP} {Q : Option Value → HP → Prop} {x : Int32} (hd : decode Y.2.1 pc = .ok (.invokestatic index, 3)) (hlk : Cond.methodLink Y.1 index Lib.Math.abs.name ∈ gtbl) (hroom : (st.map fun v => v.category).sum ≤ 8) (kk : E Y (d + 1) (pc + 3) l (.int (if 0 ≤ x then x else 0 - x) :: st) hp Q) : E Y (d + 1) pc l (.int x :: st) hp Q := by
  intro p lch e R s m args below meth c H locs cells slots ad D cI cZ A H0 Qm ls hC hW hl hR
  have hts : ∀ w ∈ gtbl, w.before args s = true := hC.2.2.2.2.2.2.1
  have h1 := hC.2.2.2.2.2.2.2.2.1
  have h2 := hC.2.2.2.2.2.2.2.2.2.1
  exact va_mabs hC.1 hC.2.1 (hC.2.2.1.trans hl.1.symm) hC.2.2.2.2.2.1 (hts _ hlk) (hts _ lm_abs.1) (hts _ lm_abs.2.1) (hts _ lm_abs.2.2) (by omega) (by rw [sum_cat]; omega) hC.2.2.2.2.2.2.2.2.2.2.1 hC.2.2.2.2.2.2.2.2.2.2.2 hd (kk p lch e R s m args below meth c H locs cells slots ad D cI cZ A H0 Qm ls hC hW hl hR)
