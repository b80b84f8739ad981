theorem AWi {w : Cond} (i : Nat) (h : lw_tbl[i]? = some w) (g : goodWord w = true) : w ∈ AW := AW_of (List.mem_of_getElem? h) g
theorem AWall (ws : List Cond) (ps : List Nat) (hp : ws = ps.filterMap (fun i => lw_tbl[i]?)) (h : ws.all goodWord = true) : ∀ w ∈ ws, w ∈ AW := fun w hw => by
  have h1 := List.all_eq_true.mp h w hw
  rw [hp] at hw
  obtain ⟨i, -, hi⟩ := List.mem_filterMap.mp hw
  exact AWi i hi h1
/-! the tables' words, as the rules ask for them: by program -/
set_option maxRecDepth 100000 in
theorem wa_X0 : ∀ w ∈ wsX00, w ∈ AW := AWall _ [321, 322] (by decide +kernel) (by decide +kernel)
set_option maxRecDepth 100000 in
theorem wa_X1 : ∀ w ∈ wsX10, w ∈ AW := AWall _ [362, 364, 366] (by decide +kernel) (by decide +kernel)
set_option maxRecDepth 100000 in
theorem wa_X2 : ∀ w ∈ wsX20, w ∈ AW := AWall _ [330, 331] (by decide +kernel) (by decide +kernel)
set_option maxRecDepth 100000 in
theorem wa_X3 : ∀ w ∈ wsX30, w ∈ AW := AWall _ [344, 345] (by decide +kernel) (by decide +kernel)
set_option maxRecDepth 100000 in
theorem wa_X4 : ∀ w ∈ wsX40, w ∈ AW := AWall _ [177, 179, 181, 183, 185, 187, 189] (by decide +kernel) (by decide +kernel)
set_option maxRecDepth 100000 in
theorem wa_X5 : ∀ w ∈ wsX50, w ∈ AW := AWall _ [85, 87] (by decide +kernel) (by decide +kernel)
set_option maxRecDepth 100000 in
theorem wa_X6 : ∀ w ∈ wsX60, w ∈ AW := AWall _ [105, 107, 109, 111] (by decide +kernel) (by decide +kernel)
set_option maxRecDepth 100000 in
theorem wa_X7 : ∀ w ∈ wsX70, w ∈ AW := AWall _ [151, 153, 155, 157, 159] (by decide +kernel) (by decide +kernel)
set_option maxRecDepth 100000 in
theorem wa_X8 : ∀ w ∈ wsX80, w ∈ AW := AWall _ [310, 312] (by decide +kernel) (by decide +kernel)
set_option maxRecDepth 100000 in
theorem wa_X9 : ∀ w ∈ wsX90, w ∈ AW := AWall _ [339, 340] (by decide +kernel) (by decide +kernel)
set_option maxRecDepth 100000 in
theorem wa_X10 : ∀ w ∈ wsX100, w ∈ AW := AWall _ [131, 133, 135, 137, 139] (by decide +kernel) (by decide +kernel)
set_option maxRecDepth 100000 in
theorem wa_X11 : ∀ w ∈ wsX110, w ∈ AW := AWall _ [201, 203, 205, 207, 209, 211, 213, 215, 217] (by decide +kernel) (by decide +kernel)
set_option maxRecDepth 100000 in
theorem wa_X12 : ∀ w ∈ wsX120, w ∈ AW := AWall _ [776, 778, 780, 782, 784, 786, 788, 790, 792, 794, 796, 798, 800, 802, 804, 806, 808, 810, 812, 814, 816, 818, 820, 822, 824, 826, 828, 830, 832, 834, 836, 838, 840, 842, 844, 846, 848, 850, 852, 854] (by decide +kernel) (by decide +kernel)
set_option maxRecDepth 100000 in
theorem tq_J6_265 : Cond.constant RJ6 265 (zI (1431655765)) ∈ AW := (AWi 502 (by decide +kernel) rfl)
set_option maxRecDepth 100000 in
theorem tq_J6_266 : Cond.constant RJ6 266 (zI (858993459)) ∈ AW := (AWi 503 (by decide +kernel) rfl)
set_option maxRecDepth 100000 in
theorem tq_J6_267 : Cond.constant RJ6 267 (zI (252645135)) ∈ AW := (AWi 504 (by decide +kernel) rfl)
set_option maxRecDepth 100000 in
theorem tn_L_7 : XN RL 7 11 9 [.null, .null, .null, .null, .null, .null, .int (zI 0), .int (zI 0), .int (zI 0)] := ⟨RX11, TX11, tyX11, rfl, wa_X11, tyX11_ok, (AWi 69 (by decide +kernel) rfl), (AWi 70 (by decide +kernel) rfl), (AWi 54 (by decide +kernel) rfl), by decide +kernel, fun _ => rfl⟩
set_option maxRecDepth 100000 in
theorem tn_L_10 : XN RL 10 12 40 [.int (zI 0), .int (zI 0), .int (zI 0), .null, .null, .null, .null, .null, .null, .null, .int (zI 0), .int (zI 0), .int (zI 0), .null, .null, .null, .null, .int (zI 0), .int (zI 0), .null, .int (zI 0), .int (zI 0), .int (zI 0), .int (zI 0), .int (zI 0), .null, .long 0, .null, .int (zI 0), .int (zI 0), .int (zI 0), .int (zI 0), .int (zI 0), .null, .null, .null, .null, .null, .null, .long 0] := ⟨RX12, TX12, tyX12, rfl, wa_X12, tyX12_ok, (AWi 730 (by decide +kernel) rfl), (AWi 731 (by decide +kernel) rfl), (AWi 60 (by decide +kernel) rfl), by decide +kernel, fun _ => rfl⟩
set_option maxRecDepth 100000 in
theorem tp_X1_7_1 : XP RX1 7 1 0 true .int := ⟨RX1, TX1, 3, "ConfessBySize$Crime", tyX1, rfl, by decide, wa_X1, ((AWi 356 (by decide +kernel) rfl) : Cond.fieldLink RX1 7 "ConfessBySize$Crime" "toldSize" "I" ∈ AW), by decide +kernel, tyX1_ok, nmX1, rfl, by decide +kernel⟩
set_option maxRecDepth 100000 in
theorem tp_X1_13_1 : XP RX1 13 1 1 true .int := ⟨RX1, TX1, 3, "ConfessBySize$Crime", tyX1, rfl, by decide, wa_X1, ((AWi 358 (by decide +kernel) rfl) : Cond.fieldLink RX1 13 "ConfessBySize$Crime" "hand" "I" ∈ AW), by decide +kernel, tyX1_ok, nmX1, rfl, by decide +kernel⟩
set_option maxRecDepth 100000 in
theorem tp_X1_16_1 : XP RX1 16 1 2 true .int := ⟨RX1, TX1, 3, "ConfessBySize$Crime", tyX1, rfl, by decide, wa_X1, ((AWi 360 (by decide +kernel) rfl) : Cond.fieldLink RX1 16 "ConfessBySize$Crime" "reward" "I" ∈ AW), by decide +kernel, tyX1_ok, nmX1, rfl, by decide +kernel⟩
set_option maxRecDepth 100000 in
theorem tf_X10_9_10 : XF RX10 9 10 0 := ⟨RX10, TX10, 5, "ConfessBySize$Trials", rfl, by decide, wa_X10, ((AWi 126 (by decide +kernel) rfl) : Cond.fieldLink RX10 9 "ConfessBySize$Trials" "persons" "[I" ∈ AW), by decide +kernel⟩
set_option maxRecDepth 100000 in
theorem tf_X10_15_10 : XF RX10 15 10 1 := ⟨RX10, TX10, 5, "ConfessBySize$Trials", rfl, by decide, wa_X10, ((AWi 127 (by decide +kernel) rfl) : Cond.fieldLink RX10 15 "ConfessBySize$Trials" "crimeSizes" "[I" ∈ AW), by decide +kernel⟩
set_option maxRecDepth 100000 in
theorem tf_X10_18_10 : XF RX10 18 10 2 := ⟨RX10, TX10, 5, "ConfessBySize$Trials", rfl, by decide, wa_X10, ((AWi 128 (by decide +kernel) rfl) : Cond.fieldLink RX10 18 "ConfessBySize$Trials" "crimeHands" "[I" ∈ AW), by decide +kernel⟩
set_option maxRecDepth 100000 in
theorem tf_X10_21_10 : XF RX10 21 10 3 := ⟨RX10, TX10, 5, "ConfessBySize$Trials", rfl, by decide, wa_X10, ((AWi 129 (by decide +kernel) rfl) : Cond.fieldLink RX10 21 "ConfessBySize$Trials" "didFit" "[Z" ∈ AW), by decide +kernel⟩
set_option maxRecDepth 100000 in
theorem tf_X10_25_10 : XF RX10 25 10 4 := ⟨RX10, TX10, 5, "ConfessBySize$Trials", rfl, by decide, wa_X10, ((AWi 130 (by decide +kernel) rfl) : Cond.fieldLink RX10 25 "ConfessBySize$Trials" "many" "I" ∈ AW), by decide +kernel⟩
set_option maxRecDepth 100000 in
theorem tp_X10_9_10 : XP RX10 9 10 0 true (.array .int) := ⟨RX10, TX10, 5, "ConfessBySize$Trials", tyX10, rfl, by decide, wa_X10, ((AWi 126 (by decide +kernel) rfl) : Cond.fieldLink RX10 9 "ConfessBySize$Trials" "persons" "[I" ∈ AW), by decide +kernel, tyX10_ok, nmX10, rfl, by decide +kernel⟩
set_option maxRecDepth 100000 in
theorem tp_X10_15_10 : XP RX10 15 10 1 true (.array .int) := ⟨RX10, TX10, 5, "ConfessBySize$Trials", tyX10, rfl, by decide, wa_X10, ((AWi 127 (by decide +kernel) rfl) : Cond.fieldLink RX10 15 "ConfessBySize$Trials" "crimeSizes" "[I" ∈ AW), by decide +kernel, tyX10_ok, nmX10, rfl, by decide +kernel⟩
set_option maxRecDepth 100000 in
theorem tp_X10_18_10 : XP RX10 18 10 2 true (.array .int) := ⟨RX10, TX10, 5, "ConfessBySize$Trials", tyX10, rfl, by decide, wa_X10, ((AWi 128 (by decide +kernel) rfl) : Cond.fieldLink RX10 18 "ConfessBySize$Trials" "crimeHands" "[I" ∈ AW), by decide +kernel, tyX10_ok, nmX10, rfl, by decide +kernel⟩
set_option maxRecDepth 100000 in
theorem tp_X10_21_10 : XP RX10 21 10 3 true (.array .boolean) := ⟨RX10, TX10, 5, "ConfessBySize$Trials", tyX10, rfl, by decide, wa_X10, ((AWi 129 (by decide +kernel) rfl) : Cond.fieldLink RX10 21 "ConfessBySize$Trials" "didFit" "[Z" ∈ AW), by decide +kernel, tyX10_ok, nmX10, rfl, by decide +kernel⟩
set_option maxRecDepth 100000 in
theorem tp_X10_25_10 : XP RX10 25 10 4 false .int := ⟨RX10, TX10, 5, "ConfessBySize$Trials", tyX10, rfl, by decide, wa_X10, ((AWi 130 (by decide +kernel) rfl) : Cond.fieldLink RX10 25 "ConfessBySize$Trials" "many" "I" ∈ AW), by decide +kernel, tyX10_ok, nmX10, rfl, by decide +kernel⟩
set_option maxRecDepth 100000 in
theorem tf_X11_10_11 : XF RX11 10 11 0 := ⟨RX11, TX11, 9, "ConfessBySize", rfl, by decide, wa_X11, ((AWi 192 (by decide +kernel) rfl) : Cond.fieldLink RX11 10 "ConfessBySize" "page" "LConfessBySize$Page;" ∈ AW), by decide +kernel⟩
set_option maxRecDepth 100000 in
theorem tf_X11_19_11 : XF RX11 19 11 1 := ⟨RX11, TX11, 9, "ConfessBySize", rfl, by decide, wa_X11, ((AWi 193 (by decide +kernel) rfl) : Cond.fieldLink RX11 19 "ConfessBySize" "roll" "LConfessBySize$Roll;" ∈ AW), by decide +kernel⟩
set_option maxRecDepth 100000 in
theorem tf_X11_26_11 : XF RX11 26 11 2 := ⟨RX11, TX11, 9, "ConfessBySize", rfl, by decide, wa_X11, ((AWi 194 (by decide +kernel) rfl) : Cond.fieldLink RX11 26 "ConfessBySize" "now" "LConfessBySize$Standing;" ∈ AW), by decide +kernel⟩
set_option maxRecDepth 100000 in
theorem tf_X11_30_11 : XF RX11 30 11 3 := ⟨RX11, TX11, 9, "ConfessBySize", rfl, by decide, wa_X11, ((AWi 195 (by decide +kernel) rfl) : Cond.fieldLink RX11 30 "ConfessBySize" "kept" "LConfessBySize$Standing;" ∈ AW), by decide +kernel⟩
set_option maxRecDepth 100000 in
theorem tf_X11_33_11 : XF RX11 33 11 4 := ⟨RX11, TX11, 9, "ConfessBySize", rfl, by decide, wa_X11, ((AWi 196 (by decide +kernel) rfl) : Cond.fieldLink RX11 33 "ConfessBySize" "wouldBe" "LConfessBySize$Standing;" ∈ AW), by decide +kernel⟩
set_option maxRecDepth 100000 in
theorem tf_X11_39_11 : XF RX11 39 11 5 := ⟨RX11, TX11, 9, "ConfessBySize", rfl, by decide, wa_X11, ((AWi 197 (by decide +kernel) rfl) : Cond.fieldLink RX11 39 "ConfessBySize" "matching" "LConfessBySize$Matching;" ∈ AW), by decide +kernel⟩
set_option maxRecDepth 100000 in
theorem tf_X11_72_11 : XF RX11 72 11 6 := ⟨RX11, TX11, 9, "ConfessBySize", rfl, by decide, wa_X11, ((AWi 198 (by decide +kernel) rfl) : Cond.fieldLink RX11 72 "ConfessBySize" "isKept" "Z" ∈ AW), by decide +kernel⟩
set_option maxRecDepth 100000 in
theorem tf_X11_76_11 : XF RX11 76 11 7 := ⟨RX11, TX11, 9, "ConfessBySize", rfl, by decide, wa_X11, ((AWi 199 (by decide +kernel) rfl) : Cond.fieldLink RX11 76 "ConfessBySize" "stationsRead" "I" ∈ AW), by decide +kernel⟩
set_option maxRecDepth 100000 in
theorem tf_X11_92_0 : XF RX11 92 0 0 := ⟨RX0, TX0, 2, "ConfessBySize$Man", rfl, by decide, wa_X0, ((AWi 307 (by decide +kernel) rfl) : Cond.fieldLink RX11 92 "ConfessBySize$Man" "size" "I" ∈ AW), by decide +kernel⟩
set_option maxRecDepth 100000 in
theorem tf_X11_92_2 : XF RX11 92 2 0 := ⟨RX2, TX2, 2, "ConfessBySize$Man", rfl, by decide, wa_X2, ((AWi 307 (by decide +kernel) rfl) : Cond.fieldLink RX11 92 "ConfessBySize$Man" "size" "I" ∈ AW), by decide +kernel⟩
set_option maxRecDepth 100000 in
theorem tf_X11_92_3 : XF RX11 92 3 0 := ⟨RX3, TX3, 2, "ConfessBySize$Man", rfl, by decide, wa_X3, ((AWi 307 (by decide +kernel) rfl) : Cond.fieldLink RX11 92 "ConfessBySize$Man" "size" "I" ∈ AW), by decide +kernel⟩
set_option maxRecDepth 100000 in
theorem tf_X11_92_8 : XF RX11 92 8 0 := ⟨RX8, TX8, 2, "ConfessBySize$Man", rfl, by decide, wa_X8, ((AWi 307 (by decide +kernel) rfl) : Cond.fieldLink RX11 92 "ConfessBySize$Man" "size" "I" ∈ AW), by decide +kernel⟩
set_option maxRecDepth 100000 in
theorem tf_X11_92_9 : XF RX11 92 9 0 := ⟨RX9, TX9, 2, "ConfessBySize$Man", rfl, by decide, wa_X9, ((AWi 307 (by decide +kernel) rfl) : Cond.fieldLink RX11 92 "ConfessBySize$Man" "size" "I" ∈ AW), by decide +kernel⟩
set_option maxRecDepth 100000 in
theorem tf_X11_95_0 : XF RX11 95 0 1 := ⟨RX0, TX0, 2, "ConfessBySize$Man", rfl, by decide, wa_X0, ((AWi 309 (by decide +kernel) rfl) : Cond.fieldLink RX11 95 "ConfessBySize$Man" "hand" "I" ∈ AW), by decide +kernel⟩
set_option maxRecDepth 100000 in
theorem tf_X11_95_2 : XF RX11 95 2 1 := ⟨RX2, TX2, 2, "ConfessBySize$Man", rfl, by decide, wa_X2, ((AWi 309 (by decide +kernel) rfl) : Cond.fieldLink RX11 95 "ConfessBySize$Man" "hand" "I" ∈ AW), by decide +kernel⟩
set_option maxRecDepth 100000 in
theorem tf_X11_95_3 : XF RX11 95 3 1 := ⟨RX3, TX3, 2, "ConfessBySize$Man", rfl, by decide, wa_X3, ((AWi 309 (by decide +kernel) rfl) : Cond.fieldLink RX11 95 "ConfessBySize$Man" "hand" "I" ∈ AW), by decide +kernel⟩
set_option maxRecDepth 100000 in
theorem tf_X11_95_8 : XF RX11 95 8 1 := ⟨RX8, TX8, 2, "ConfessBySize$Man", rfl, by decide, wa_X8, ((AWi 309 (by decide +kernel) rfl) : Cond.fieldLink RX11 95 "ConfessBySize$Man" "hand" "I" ∈ AW), by decide +kernel⟩
set_option maxRecDepth 100000 in
theorem tf_X11_95_9 : XF RX11 95 9 1 := ⟨RX9, TX9, 2, "ConfessBySize$Man", rfl, by decide, wa_X9, ((AWi 309 (by decide +kernel) rfl) : Cond.fieldLink RX11 95 "ConfessBySize$Man" "hand" "I" ∈ AW), by decide +kernel⟩
set_option maxRecDepth 100000 in
theorem tf_X11_129_1 : XF RX11 129 1 1 := ⟨RX1, TX1, 3, "ConfessBySize$Crime", rfl, by decide, wa_X1, ((AWi 359 (by decide +kernel) rfl) : Cond.fieldLink RX11 129 "ConfessBySize$Crime" "hand" "I" ∈ AW), by decide +kernel⟩
set_option maxRecDepth 100000 in
theorem tf_X11_132_1 : XF RX11 132 1 2 := ⟨RX1, TX1, 3, "ConfessBySize$Crime", rfl, by decide, wa_X1, ((AWi 361 (by decide +kernel) rfl) : Cond.fieldLink RX11 132 "ConfessBySize$Crime" "reward" "I" ∈ AW), by decide +kernel⟩
set_option maxRecDepth 100000 in
theorem tf_X11_152_7 : XF RX11 152 7 4 := ⟨RX7, TX7, 5, "ConfessBySize$Standing", rfl, by decide, wa_X7, ((AWi 150 (by decide +kernel) rfl) : Cond.fieldLink RX11 152 "ConfessBySize$Standing" "timesConfessed" "I" ∈ AW), by decide +kernel⟩
set_option maxRecDepth 100000 in
theorem tf_X11_162_7 : XF RX11 162 7 3 := ⟨RX7, TX7, 5, "ConfessBySize$Standing", rfl, by decide, wa_X7, ((AWi 148 (by decide +kernel) rfl) : Cond.fieldLink RX11 162 "ConfessBySize$Standing" "stitchesMade" "I" ∈ AW), by decide +kernel⟩
set_option maxRecDepth 100000 in
theorem tf_X11_177_11 : XF RX11 177 11 8 := ⟨RX11, TX11, 9, "ConfessBySize", rfl, by decide, wa_X11, ((AWi 200 (by decide +kernel) rfl) : Cond.fieldLink RX11 177 "ConfessBySize" "stitchingsDone" "I" ∈ AW), by decide +kernel⟩
set_option maxRecDepth 100000 in
theorem tf_X11_184_7 : XF RX11 184 7 2 := ⟨RX7, TX7, 5, "ConfessBySize$Standing", rfl, by decide, wa_X7, ((AWi 146 (by decide +kernel) rfl) : Cond.fieldLink RX11 184 "ConfessBySize$Standing" "trials" "LConfessBySize$Trials;" ∈ AW), by decide +kernel⟩
set_option maxRecDepth 100000 in
theorem tf_X11_283_4 : XF RX11 283 4 5 := ⟨RX4, TX4, 7, "ConfessBySize$Matching", rfl, by decide, wa_X4, ((AWi 174 (by decide +kernel) rfl) : Cond.fieldLink RX11 283 "ConfessBySize$Matching" "bestMany" "I" ∈ AW), by decide +kernel⟩
set_option maxRecDepth 100000 in
theorem tf_X11_286_4 : XF RX11 286 4 6 := ⟨RX4, TX4, 7, "ConfessBySize$Matching", rfl, by decide, wa_X4, ((AWi 176 (by decide +kernel) rfl) : Cond.fieldLink RX11 286 "ConfessBySize$Matching" "bestReward" "I" ∈ AW), by decide +kernel⟩
set_option maxRecDepth 100000 in
theorem tk_X11_242 : Cond.classLink RX11 242 RX8 ∈ AW := (AWi 515 (by decide +kernel) rfl)
set_option maxRecDepth 100000 in
theorem tk_X11_244 : Cond.classLink RX11 244 RX0 ∈ AW := (AWi 516 (by decide +kernel) rfl)
set_option maxRecDepth 100000 in
theorem tk_X11_246 : Cond.classLink RX11 246 RX2 ∈ AW := (AWi 517 (by decide +kernel) rfl)
set_option maxRecDepth 100000 in
theorem tk_X11_248 : Cond.classLink RX11 248 RX9 ∈ AW := (AWi 518 (by decide +kernel) rfl)
set_option maxRecDepth 100000 in
theorem tq_X11_222 : Cond.constantLong RX11 222 (1009) ∈ AW := (AWi 720 (by decide +kernel) rfl)
set_option maxRecDepth 100000 in
theorem tq_X11_224 : Cond.constantLong RX11 224 (31) ∈ AW := (AWi 721 (by decide +kernel) rfl)
set_option maxRecDepth 100000 in
theorem tq_X11_315 : Cond.constantLong RX11 315 (1103515245) ∈ AW := (AWi 685 (by decide +kernel) rfl)
set_option maxRecDepth 100000 in
theorem tq_X11_317 : Cond.constantLong RX11 317 (12345) ∈ AW := (AWi 686 (by decide +kernel) rfl)
set_option maxRecDepth 100000 in
theorem tq_X11_319 : Cond.constantLong RX11 319 (2147483647) ∈ AW := (AWi 687 (by decide +kernel) rfl)
set_option maxRecDepth 100000 in
theorem tq_X11_321 : Cond.constant RX11 321 (zI (65536)) ∈ AW := (AWi 691 (by decide +kernel) rfl)
set_option maxRecDepth 100000 in
theorem tn_X11_7 : XN RX11 7 5 2 [.null, .int (zI 0)] := ⟨RX5, TX5, tyX5, rfl, wa_X5, tyX5_ok, (AWi 77 (by decide +kernel) rfl), (AWi 78 (by decide +kernel) rfl), (AWi 55 (by decide +kernel) rfl), by decide +kernel, fun _ => rfl⟩
set_option maxRecDepth 100000 in
theorem tn_X11_16 : XN RX11 16 6 4 [.null, .null, .int (zI 0), .int (zI 0)] := ⟨RX6, TX6, tyX6, rfl, wa_X6, tyX6_ok, (AWi 91 (by decide +kernel) rfl), (AWi 92 (by decide +kernel) rfl), (AWi 56 (by decide +kernel) rfl), by decide +kernel, fun _ => rfl⟩
set_option maxRecDepth 100000 in
theorem tn_X11_23 : XN RX11 23 7 5 [.null, .null, .null, .int (zI 0), .int (zI 0)] := ⟨RX7, TX7, tyX7, rfl, wa_X7, tyX7_ok, (AWi 114 (by decide +kernel) rfl), (AWi 115 (by decide +kernel) rfl), (AWi 57 (by decide +kernel) rfl), by decide +kernel, fun _ => rfl⟩
set_option maxRecDepth 100000 in
theorem tn_X11_36 : XN RX11 36 4 7 [.null, .null, .null, .null, .int (zI 0), .int (zI 0), .int (zI 0)] := ⟨RX4, TX4, tyX4, rfl, wa_X4, tyX4_ok, (AWi 162 (by decide +kernel) rfl), (AWi 163 (by decide +kernel) rfl), (AWi 59 (by decide +kernel) rfl), by decide +kernel, fun _ => rfl⟩
set_option maxRecDepth 100000 in
theorem tp_X11_10_11 : XP RX11 10 11 0 true (.object "ConfessBySize$Page") := ⟨RX11, TX11, 9, "ConfessBySize", tyX11, rfl, by decide, wa_X11, ((AWi 192 (by decide +kernel) rfl) : Cond.fieldLink RX11 10 "ConfessBySize" "page" "LConfessBySize$Page;" ∈ AW), by decide +kernel, tyX11_ok, nmX11, rfl, by decide +kernel⟩
set_option maxRecDepth 100000 in
theorem tp_X11_19_11 : XP RX11 19 11 1 true (.object "ConfessBySize$Roll") := ⟨RX11, TX11, 9, "ConfessBySize", tyX11, rfl, by decide, wa_X11, ((AWi 193 (by decide +kernel) rfl) : Cond.fieldLink RX11 19 "ConfessBySize" "roll" "LConfessBySize$Roll;" ∈ AW), by decide +kernel, tyX11_ok, nmX11, rfl, by decide +kernel⟩
set_option maxRecDepth 100000 in
theorem tp_X11_26_11 : XP RX11 26 11 2 true (.object "ConfessBySize$Standing") := ⟨RX11, TX11, 9, "ConfessBySize", tyX11, rfl, by decide, wa_X11, ((AWi 194 (by decide +kernel) rfl) : Cond.fieldLink RX11 26 "ConfessBySize" "now" "LConfessBySize$Standing;" ∈ AW), by decide +kernel, tyX11_ok, nmX11, rfl, by decide +kernel⟩
set_option maxRecDepth 100000 in
theorem tp_X11_30_11 : XP RX11 30 11 3 true (.object "ConfessBySize$Standing") := ⟨RX11, TX11, 9, "ConfessBySize", tyX11, rfl, by decide, wa_X11, ((AWi 195 (by decide +kernel) rfl) : Cond.fieldLink RX11 30 "ConfessBySize" "kept" "LConfessBySize$Standing;" ∈ AW), by decide +kernel, tyX11_ok, nmX11, rfl, by decide +kernel⟩
set_option maxRecDepth 100000 in
theorem tp_X11_33_11 : XP RX11 33 11 4 true (.object "ConfessBySize$Standing") := ⟨RX11, TX11, 9, "ConfessBySize", tyX11, rfl, by decide, wa_X11, ((AWi 196 (by decide +kernel) rfl) : Cond.fieldLink RX11 33 "ConfessBySize" "wouldBe" "LConfessBySize$Standing;" ∈ AW), by decide +kernel, tyX11_ok, nmX11, rfl, by decide +kernel⟩
set_option maxRecDepth 100000 in
theorem tp_X11_39_11 : XP RX11 39 11 5 true (.object "ConfessBySize$Matching") := ⟨RX11, TX11, 9, "ConfessBySize", tyX11, rfl, by decide, wa_X11, ((AWi 197 (by decide +kernel) rfl) : Cond.fieldLink RX11 39 "ConfessBySize" "matching" "LConfessBySize$Matching;" ∈ AW), by decide +kernel, tyX11_ok, nmX11, rfl, by decide +kernel⟩
set_option maxRecDepth 100000 in
theorem tp_X11_72_11 : XP RX11 72 11 6 false .boolean := ⟨RX11, TX11, 9, "ConfessBySize", tyX11, rfl, by decide, wa_X11, ((AWi 198 (by decide +kernel) rfl) : Cond.fieldLink RX11 72 "ConfessBySize" "isKept" "Z" ∈ AW), by decide +kernel, tyX11_ok, nmX11, rfl, by decide +kernel⟩
set_option maxRecDepth 100000 in
theorem tp_X11_76_11 : XP RX11 76 11 7 false .int := ⟨RX11, TX11, 9, "ConfessBySize", tyX11, rfl, by decide, wa_X11, ((AWi 199 (by decide +kernel) rfl) : Cond.fieldLink RX11 76 "ConfessBySize" "stationsRead" "I" ∈ AW), by decide +kernel, tyX11_ok, nmX11, rfl, by decide +kernel⟩
set_option maxRecDepth 100000 in
theorem tp_X11_152_7 : XP RX11 152 7 4 false .int := ⟨RX7, TX7, 5, "ConfessBySize$Standing", tyX7, rfl, by decide, wa_X7, ((AWi 150 (by decide +kernel) rfl) : Cond.fieldLink RX11 152 "ConfessBySize$Standing" "timesConfessed" "I" ∈ AW), by decide +kernel, tyX7_ok, nmX7, rfl, by decide +kernel⟩
set_option maxRecDepth 100000 in
theorem tp_X11_162_7 : XP RX11 162 7 3 false .int := ⟨RX7, TX7, 5, "ConfessBySize$Standing", tyX7, rfl, by decide, wa_X7, ((AWi 148 (by decide +kernel) rfl) : Cond.fieldLink RX11 162 "ConfessBySize$Standing" "stitchesMade" "I" ∈ AW), by decide +kernel, tyX7_ok, nmX7, rfl, by decide +kernel⟩
set_option maxRecDepth 100000 in
theorem tp_X11_177_11 : XP RX11 177 11 8 false .int := ⟨RX11, TX11, 9, "ConfessBySize", tyX11, rfl, by decide, wa_X11, ((AWi 200 (by decide +kernel) rfl) : Cond.fieldLink RX11 177 "ConfessBySize" "stitchingsDone" "I" ∈ AW), by decide +kernel, tyX11_ok, nmX11, rfl, by decide +kernel⟩
set_option maxRecDepth 100000 in
theorem tf_X12_7_12 : XF RX12 7 12 3 := ⟨RX12, TX12, 40, "ConfessBySizeModel", rfl, by decide, wa_X12, ((AWi 739 (by decide +kernel) rfl) : Cond.fieldLink RX12 7 "ConfessBySizeModel" "kindOf" "[I" ∈ AW), by decide +kernel⟩
set_option maxRecDepth 100000 in
theorem tf_X12_13_12 : XF RX12 13 12 4 := ⟨RX12, TX12, 40, "ConfessBySizeModel", rfl, by decide, wa_X12, ((AWi 740 (by decide +kernel) rfl) : Cond.fieldLink RX12 13 "ConfessBySizeModel" "sizeOf" "[I" ∈ AW), by decide +kernel⟩
set_option maxRecDepth 100000 in
theorem tf_X12_16_12 : XF RX12 16 12 5 := ⟨RX12, TX12, 40, "ConfessBySizeModel", rfl, by decide, wa_X12, ((AWi 741 (by decide +kernel) rfl) : Cond.fieldLink RX12 16 "ConfessBySizeModel" "handOf" "[I" ∈ AW), by decide +kernel⟩
set_option maxRecDepth 100000 in
theorem tf_X12_19_12 : XF RX12 19 12 6 := ⟨RX12, TX12, 40, "ConfessBySizeModel", rfl, by decide, wa_X12, ((AWi 742 (by decide +kernel) rfl) : Cond.fieldLink RX12 19 "ConfessBySizeModel" "crimeSize" "[I" ∈ AW), by decide +kernel⟩
set_option maxRecDepth 100000 in
theorem tf_X12_22_12 : XF RX12 22 12 7 := ⟨RX12, TX12, 40, "ConfessBySizeModel", rfl, by decide, wa_X12, ((AWi 743 (by decide +kernel) rfl) : Cond.fieldLink RX12 22 "ConfessBySizeModel" "crimeHand" "[I" ∈ AW), by decide +kernel⟩
set_option maxRecDepth 100000 in
theorem tf_X12_25_12 : XF RX12 25 12 8 := ⟨RX12, TX12, 40, "ConfessBySizeModel", rfl, by decide, wa_X12, ((AWi 744 (by decide +kernel) rfl) : Cond.fieldLink RX12 25 "ConfessBySizeModel" "rewardOf" "[I" ∈ AW), by decide +kernel⟩
set_option maxRecDepth 100000 in
theorem tf_X12_28_12 : XF RX12 28 12 9 := ⟨RX12, TX12, 40, "ConfessBySizeModel", rfl, by decide, wa_X12, ((AWi 745 (by decide +kernel) rfl) : Cond.fieldLink RX12 28 "ConfessBySizeModel" "hasOf" "[I" ∈ AW), by decide +kernel⟩
set_option maxRecDepth 100000 in
theorem tf_X12_31_12 : XF RX12 31 12 13 := ⟨RX12, TX12, 40, "ConfessBySizeModel", rfl, by decide, wa_X12, ((AWi 749 (by decide +kernel) rfl) : Cond.fieldLink RX12 31 "ConfessBySizeModel" "triedWho" "[I" ∈ AW), by decide +kernel⟩
set_option maxRecDepth 100000 in
theorem tf_X12_34_12 : XF RX12 34 12 14 := ⟨RX12, TX12, 40, "ConfessBySizeModel", rfl, by decide, wa_X12, ((AWi 750 (by decide +kernel) rfl) : Cond.fieldLink RX12 34 "ConfessBySizeModel" "triedSize" "[I" ∈ AW), by decide +kernel⟩
set_option maxRecDepth 100000 in
theorem tf_X12_37_12 : XF RX12 37 12 15 := ⟨RX12, TX12, 40, "ConfessBySizeModel", rfl, by decide, wa_X12, ((AWi 751 (by decide +kernel) rfl) : Cond.fieldLink RX12 37 "ConfessBySizeModel" "triedHand" "[I" ∈ AW), by decide +kernel⟩
set_option maxRecDepth 100000 in
theorem tf_X12_40_12 : XF RX12 40 12 16 := ⟨RX12, TX12, 40, "ConfessBySizeModel", rfl, by decide, wa_X12, ((AWi 752 (by decide +kernel) rfl) : Cond.fieldLink RX12 40 "ConfessBySizeModel" "triedFits" "[I" ∈ AW), by decide +kernel⟩
set_option maxRecDepth 100000 in
theorem tf_X12_43_12 : XF RX12 43 12 19 := ⟨RX12, TX12, 40, "ConfessBySizeModel", rfl, by decide, wa_X12, ((AWi 755 (by decide +kernel) rfl) : Cond.fieldLink RX12 43 "ConfessBySizeModel" "page" "[B" ∈ AW), by decide +kernel⟩
set_option maxRecDepth 100000 in
theorem tf_X12_47_12 : XF RX12 47 12 25 := ⟨RX12, TX12, 40, "ConfessBySizeModel", rfl, by decide, wa_X12, ((AWi 761 (by decide +kernel) rfl) : Cond.fieldLink RX12 47 "ConfessBySizeModel" "savedSize" "[I" ∈ AW), by decide +kernel⟩
set_option maxRecDepth 100000 in
theorem tf_X12_50_12 : XF RX12 50 12 27 := ⟨RX12, TX12, 40, "ConfessBySizeModel", rfl, by decide, wa_X12, ((AWi 763 (by decide +kernel) rfl) : Cond.fieldLink RX12 50 "ConfessBySizeModel" "savedHas" "[I" ∈ AW), by decide +kernel⟩
set_option maxRecDepth 100000 in
theorem tf_X12_53_12 : XF RX12 53 12 33 := ⟨RX12, TX12, 40, "ConfessBySizeModel", rfl, by decide, wa_X12, ((AWi 769 (by decide +kernel) rfl) : Cond.fieldLink RX12 53 "ConfessBySizeModel" "keptSize" "[I" ∈ AW), by decide +kernel⟩
set_option maxRecDepth 100000 in
theorem tf_X12_56_12 : XF RX12 56 12 34 := ⟨RX12, TX12, 40, "ConfessBySizeModel", rfl, by decide, wa_X12, ((AWi 770 (by decide +kernel) rfl) : Cond.fieldLink RX12 56 "ConfessBySizeModel" "keptHas" "[I" ∈ AW), by decide +kernel⟩
set_option maxRecDepth 100000 in
theorem tf_X12_59_12 : XF RX12 59 12 35 := ⟨RX12, TX12, 40, "ConfessBySizeModel", rfl, by decide, wa_X12, ((AWi 771 (by decide +kernel) rfl) : Cond.fieldLink RX12 59 "ConfessBySizeModel" "keptWho" "[I" ∈ AW), by decide +kernel⟩
set_option maxRecDepth 100000 in
theorem tf_X12_62_12 : XF RX12 62 12 36 := ⟨RX12, TX12, 40, "ConfessBySizeModel", rfl, by decide, wa_X12, ((AWi 772 (by decide +kernel) rfl) : Cond.fieldLink RX12 62 "ConfessBySizeModel" "keptTriedSize" "[I" ∈ AW), by decide +kernel⟩
set_option maxRecDepth 100000 in
theorem tf_X12_65_12 : XF RX12 65 12 37 := ⟨RX12, TX12, 40, "ConfessBySizeModel", rfl, by decide, wa_X12, ((AWi 773 (by decide +kernel) rfl) : Cond.fieldLink RX12 65 "ConfessBySizeModel" "keptTriedHand" "[I" ∈ AW), by decide +kernel⟩
set_option maxRecDepth 100000 in
theorem tf_X12_68_12 : XF RX12 68 12 38 := ⟨RX12, TX12, 40, "ConfessBySizeModel", rfl, by decide, wa_X12, ((AWi 774 (by decide +kernel) rfl) : Cond.fieldLink RX12 68 "ConfessBySizeModel" "keptFits" "[I" ∈ AW), by decide +kernel⟩
set_option maxRecDepth 100000 in
theorem tf_X12_75_12 : XF RX12 75 12 18 := ⟨RX12, TX12, 40, "ConfessBySizeModel", rfl, by decide, wa_X12, ((AWi 754 (by decide +kernel) rfl) : Cond.fieldLink RX12 75 "ConfessBySizeModel" "pageLength" "I" ∈ AW), by decide +kernel⟩
set_option maxRecDepth 100000 in
theorem tf_X12_86_12 : XF RX12 86 12 22 := ⟨RX12, TX12, 40, "ConfessBySizeModel", rfl, by decide, wa_X12, ((AWi 758 (by decide +kernel) rfl) : Cond.fieldLink RX12 86 "ConfessBySizeModel" "newCrimes" "I" ∈ AW), by decide +kernel⟩
set_option maxRecDepth 100000 in
theorem tf_X12_89_12 : XF RX12 89 12 20 := ⟨RX12, TX12, 40, "ConfessBySizeModel", rfl, by decide, wa_X12, ((AWi 756 (by decide +kernel) rfl) : Cond.fieldLink RX12 89 "ConfessBySizeModel" "isWhole" "Z" ∈ AW), by decide +kernel⟩
set_option maxRecDepth 100000 in
theorem tf_X12_93_12 : XF RX12 93 12 21 := ⟨RX12, TX12, 40, "ConfessBySizeModel", rfl, by decide, wa_X12, ((AWi 757 (by decide +kernel) rfl) : Cond.fieldLink RX12 93 "ConfessBySizeModel" "newMany" "I" ∈ AW), by decide +kernel⟩
set_option maxRecDepth 100000 in
theorem tf_X12_106_12 : XF RX12 106 12 1 := ⟨RX12, TX12, 40, "ConfessBySizeModel", rfl, by decide, wa_X12, ((AWi 737 (by decide +kernel) rfl) : Cond.fieldLink RX12 106 "ConfessBySizeModel" "people" "I" ∈ AW), by decide +kernel⟩
set_option maxRecDepth 100000 in
theorem tf_X12_109_12 : XF RX12 109 12 2 := ⟨RX12, TX12, 40, "ConfessBySizeModel", rfl, by decide, wa_X12, ((AWi 738 (by decide +kernel) rfl) : Cond.fieldLink RX12 109 "ConfessBySizeModel" "crimes" "I" ∈ AW), by decide +kernel⟩
set_option maxRecDepth 100000 in
theorem tf_X12_112_12 : XF RX12 112 12 0 := ⟨RX12, TX12, 40, "ConfessBySizeModel", rfl, by decide, wa_X12, ((AWi 736 (by decide +kernel) rfl) : Cond.fieldLink RX12 112 "ConfessBySizeModel" "stations" "I" ∈ AW), by decide +kernel⟩
set_option maxRecDepth 100000 in
theorem tf_X12_115_12 : XF RX12 115 12 10 := ⟨RX12, TX12, 40, "ConfessBySizeModel", rfl, by decide, wa_X12, ((AWi 746 (by decide +kernel) rfl) : Cond.fieldLink RX12 115 "ConfessBySizeModel" "stitchMany" "I" ∈ AW), by decide +kernel⟩
set_option maxRecDepth 100000 in
theorem tf_X12_118_12 : XF RX12 118 12 11 := ⟨RX12, TX12, 40, "ConfessBySizeModel", rfl, by decide, wa_X12, ((AWi 747 (by decide +kernel) rfl) : Cond.fieldLink RX12 118 "ConfessBySizeModel" "confessions" "I" ∈ AW), by decide +kernel⟩
set_option maxRecDepth 100000 in
theorem tf_X12_121_12 : XF RX12 121 12 12 := ⟨RX12, TX12, 40, "ConfessBySizeModel", rfl, by decide, wa_X12, ((AWi 748 (by decide +kernel) rfl) : Cond.fieldLink RX12 121 "ConfessBySizeModel" "triedMany" "I" ∈ AW), by decide +kernel⟩
set_option maxRecDepth 100000 in
theorem tf_X12_179_12 : XF RX12 179 12 23 := ⟨RX12, TX12, 40, "ConfessBySizeModel", rfl, by decide, wa_X12, ((AWi 759 (by decide +kernel) rfl) : Cond.fieldLink RX12 179 "ConfessBySizeModel" "matchMany" "I" ∈ AW), by decide +kernel⟩
set_option maxRecDepth 100000 in
theorem tf_X12_182_12 : XF RX12 182 12 24 := ⟨RX12, TX12, 40, "ConfessBySizeModel", rfl, by decide, wa_X12, ((AWi 760 (by decide +kernel) rfl) : Cond.fieldLink RX12 182 "ConfessBySizeModel" "matchReward" "I" ∈ AW), by decide +kernel⟩
set_option maxRecDepth 100000 in
theorem tf_X12_207_12 : XF RX12 207 12 17 := ⟨RX12, TX12, 40, "ConfessBySizeModel", rfl, by decide, wa_X12, ((AWi 753 (by decide +kernel) rfl) : Cond.fieldLink RX12 207 "ConfessBySizeModel" "asks" "I" ∈ AW), by decide +kernel⟩
set_option maxRecDepth 100000 in
theorem tf_X12_218_12 : XF RX12 218 12 26 := ⟨RX12, TX12, 40, "ConfessBySizeModel", rfl, by decide, wa_X12, ((AWi 762 (by decide +kernel) rfl) : Cond.fieldLink RX12 218 "ConfessBySizeModel" "seedNow" "J" ∈ AW), by decide +kernel⟩
set_option maxRecDepth 100000 in
theorem tf_X12_238_12 : XF RX12 238 12 28 := ⟨RX12, TX12, 40, "ConfessBySizeModel", rfl, by decide, wa_X12, ((AWi 764 (by decide +kernel) rfl) : Cond.fieldLink RX12 238 "ConfessBySizeModel" "isKept" "Z" ∈ AW), by decide +kernel⟩
set_option maxRecDepth 100000 in
theorem tf_X12_241_12 : XF RX12 241 12 29 := ⟨RX12, TX12, 40, "ConfessBySizeModel", rfl, by decide, wa_X12, ((AWi 765 (by decide +kernel) rfl) : Cond.fieldLink RX12 241 "ConfessBySizeModel" "keptStation" "I" ∈ AW), by decide +kernel⟩
set_option maxRecDepth 100000 in
theorem tf_X12_244_12 : XF RX12 244 12 30 := ⟨RX12, TX12, 40, "ConfessBySizeModel", rfl, by decide, wa_X12, ((AWi 766 (by decide +kernel) rfl) : Cond.fieldLink RX12 244 "ConfessBySizeModel" "keptStitches" "I" ∈ AW), by decide +kernel⟩
set_option maxRecDepth 100000 in
theorem tf_X12_247_12 : XF RX12 247 12 31 := ⟨RX12, TX12, 40, "ConfessBySizeModel", rfl, by decide, wa_X12, ((AWi 767 (by decide +kernel) rfl) : Cond.fieldLink RX12 247 "ConfessBySizeModel" "keptConfessions" "I" ∈ AW), by decide +kernel⟩
set_option maxRecDepth 100000 in
theorem tf_X12_250_12 : XF RX12 250 12 32 := ⟨RX12, TX12, 40, "ConfessBySizeModel", rfl, by decide, wa_X12, ((AWi 768 (by decide +kernel) rfl) : Cond.fieldLink RX12 250 "ConfessBySizeModel" "keptTried" "I" ∈ AW), by decide +kernel⟩
set_option maxRecDepth 100000 in
theorem tf_X12_258_12 : XF RX12 258 12 39 := ⟨RX12, TX12, 40, "ConfessBySizeModel", rfl, by decide, wa_X12, ((AWi 775 (by decide +kernel) rfl) : Cond.fieldLink RX12 258 "ConfessBySizeModel" "h" "J" ∈ AW), by decide +kernel⟩
set_option maxRecDepth 100000 in
theorem tq_X12_203 : Cond.constant RX12 203 (zI (268435456)) ∈ AW := (AWi 948 (by decide +kernel) rfl)
set_option maxRecDepth 100000 in
theorem tq_X12_216 : Cond.constantLong RX12 216 (1103515245) ∈ AW := (AWi 1052 (by decide +kernel) rfl)
set_option maxRecDepth 100000 in
theorem tq_X12_222 : Cond.constantLong RX12 222 (12345) ∈ AW := (AWi 1053 (by decide +kernel) rfl)
set_option maxRecDepth 100000 in
theorem tq_X12_224 : Cond.constantLong RX12 224 (2147483647) ∈ AW := (AWi 1054 (by decide +kernel) rfl)
set_option maxRecDepth 100000 in
theorem tq_X12_226 : Cond.constantLong RX12 226 (65536) ∈ AW := (AWi 1055 (by decide +kernel) rfl)
set_option maxRecDepth 100000 in
theorem tq_X12_256 : Cond.constantLong RX12 256 (31) ∈ AW := (AWi 1085 (by decide +kernel) rfl)
set_option maxRecDepth 100000 in
theorem tq_X12_261 : Cond.constantLong RX12 261 (1009) ∈ AW := (AWi 1080 (by decide +kernel) rfl)
set_option maxRecDepth 100000 in
theorem tp_X12_7_12 : XP RX12 7 12 3 true (.array .int) := ⟨RX12, TX12, 40, "ConfessBySizeModel", tyX12, rfl, by decide, wa_X12, ((AWi 739 (by decide +kernel) rfl) : Cond.fieldLink RX12 7 "ConfessBySizeModel" "kindOf" "[I" ∈ AW), by decide +kernel, tyX12_ok, nmX12, rfl, by decide +kernel⟩
set_option maxRecDepth 100000 in
theorem tp_X12_13_12 : XP RX12 13 12 4 true (.array .int) := ⟨RX12, TX12, 40, "ConfessBySizeModel", tyX12, rfl, by decide, wa_X12, ((AWi 740 (by decide +kernel) rfl) : Cond.fieldLink RX12 13 "ConfessBySizeModel" "sizeOf" "[I" ∈ AW), by decide +kernel, tyX12_ok, nmX12, rfl, by decide +kernel⟩
set_option maxRecDepth 100000 in
theorem tp_X12_16_12 : XP RX12 16 12 5 true (.array .int) := ⟨RX12, TX12, 40, "ConfessBySizeModel", tyX12, rfl, by decide, wa_X12, ((AWi 741 (by decide +kernel) rfl) : Cond.fieldLink RX12 16 "ConfessBySizeModel" "handOf" "[I" ∈ AW), by decide +kernel, tyX12_ok, nmX12, rfl, by decide +kernel⟩
set_option maxRecDepth 100000 in
theorem tp_X12_19_12 : XP RX12 19 12 6 true (.array .int) := ⟨RX12, TX12, 40, "ConfessBySizeModel", tyX12, rfl, by decide, wa_X12, ((AWi 742 (by decide +kernel) rfl) : Cond.fieldLink RX12 19 "ConfessBySizeModel" "crimeSize" "[I" ∈ AW), by decide +kernel, tyX12_ok, nmX12, rfl, by decide +kernel⟩
set_option maxRecDepth 100000 in
theorem tp_X12_22_12 : XP RX12 22 12 7 true (.array .int) := ⟨RX12, TX12, 40, "ConfessBySizeModel", tyX12, rfl, by decide, wa_X12, ((AWi 743 (by decide +kernel) rfl) : Cond.fieldLink RX12 22 "ConfessBySizeModel" "crimeHand" "[I" ∈ AW), by decide +kernel, tyX12_ok, nmX12, rfl, by decide +kernel⟩
set_option maxRecDepth 100000 in
theorem tp_X12_25_12 : XP RX12 25 12 8 true (.array .int) := ⟨RX12, TX12, 40, "ConfessBySizeModel", tyX12, rfl, by decide, wa_X12, ((AWi 744 (by decide +kernel) rfl) : Cond.fieldLink RX12 25 "ConfessBySizeModel" "rewardOf" "[I" ∈ AW), by decide +kernel, tyX12_ok, nmX12, rfl, by decide +kernel⟩
set_option maxRecDepth 100000 in
theorem tp_X12_28_12 : XP RX12 28 12 9 true (.array .int) := ⟨RX12, TX12, 40, "ConfessBySizeModel", tyX12, rfl, by decide, wa_X12, ((AWi 745 (by decide +kernel) rfl) : Cond.fieldLink RX12 28 "ConfessBySizeModel" "hasOf" "[I" ∈ AW), by decide +kernel, tyX12_ok, nmX12, rfl, by decide +kernel⟩
set_option maxRecDepth 100000 in
theorem tp_X12_31_12 : XP RX12 31 12 13 true (.array .int) := ⟨RX12, TX12, 40, "ConfessBySizeModel", tyX12, rfl, by decide, wa_X12, ((AWi 749 (by decide +kernel) rfl) : Cond.fieldLink RX12 31 "ConfessBySizeModel" "triedWho" "[I" ∈ AW), by decide +kernel, tyX12_ok, nmX12, rfl, by decide +kernel⟩
set_option maxRecDepth 100000 in
theorem tp_X12_34_12 : XP RX12 34 12 14 true (.array .int) := ⟨RX12, TX12, 40, "ConfessBySizeModel", tyX12, rfl, by decide, wa_X12, ((AWi 750 (by decide +kernel) rfl) : Cond.fieldLink RX12 34 "ConfessBySizeModel" "triedSize" "[I" ∈ AW), by decide +kernel, tyX12_ok, nmX12, rfl, by decide +kernel⟩
set_option maxRecDepth 100000 in
theorem tp_X12_37_12 : XP RX12 37 12 15 true (.array .int) := ⟨RX12, TX12, 40, "ConfessBySizeModel", tyX12, rfl, by decide, wa_X12, ((AWi 751 (by decide +kernel) rfl) : Cond.fieldLink RX12 37 "ConfessBySizeModel" "triedHand" "[I" ∈ AW), by decide +kernel, tyX12_ok, nmX12, rfl, by decide +kernel⟩
set_option maxRecDepth 100000 in
theorem tp_X12_40_12 : XP RX12 40 12 16 true (.array .int) := ⟨RX12, TX12, 40, "ConfessBySizeModel", tyX12, rfl, by decide, wa_X12, ((AWi 752 (by decide +kernel) rfl) : Cond.fieldLink RX12 40 "ConfessBySizeModel" "triedFits" "[I" ∈ AW), by decide +kernel, tyX12_ok, nmX12, rfl, by decide +kernel⟩
set_option maxRecDepth 100000 in
theorem tp_X12_43_12 : XP RX12 43 12 19 true (.array .byte) := ⟨RX12, TX12, 40, "ConfessBySizeModel", tyX12, rfl, by decide, wa_X12, ((AWi 755 (by decide +kernel) rfl) : Cond.fieldLink RX12 43 "ConfessBySizeModel" "page" "[B" ∈ AW), by decide +kernel, tyX12_ok, nmX12, rfl, by decide +kernel⟩
set_option maxRecDepth 100000 in
theorem tp_X12_47_12 : XP RX12 47 12 25 true (.array .int) := ⟨RX12, TX12, 40, "ConfessBySizeModel", tyX12, rfl, by decide, wa_X12, ((AWi 761 (by decide +kernel) rfl) : Cond.fieldLink RX12 47 "ConfessBySizeModel" "savedSize" "[I" ∈ AW), by decide +kernel, tyX12_ok, nmX12, rfl, by decide +kernel⟩
set_option maxRecDepth 100000 in
theorem tp_X12_50_12 : XP RX12 50 12 27 true (.array .int) := ⟨RX12, TX12, 40, "ConfessBySizeModel", tyX12, rfl, by decide, wa_X12, ((AWi 763 (by decide +kernel) rfl) : Cond.fieldLink RX12 50 "ConfessBySizeModel" "savedHas" "[I" ∈ AW), by decide +kernel, tyX12_ok, nmX12, rfl, by decide +kernel⟩
set_option maxRecDepth 100000 in
theorem tp_X12_53_12 : XP RX12 53 12 33 true (.array .int) := ⟨RX12, TX12, 40, "ConfessBySizeModel", tyX12, rfl, by decide, wa_X12, ((AWi 769 (by decide +kernel) rfl) : Cond.fieldLink RX12 53 "ConfessBySizeModel" "keptSize" "[I" ∈ AW), by decide +kernel, tyX12_ok, nmX12, rfl, by decide +kernel⟩
set_option maxRecDepth 100000 in
theorem tp_X12_56_12 : XP RX12 56 12 34 true (.array .int) := ⟨RX12, TX12, 40, "ConfessBySizeModel", tyX12, rfl, by decide, wa_X12, ((AWi 770 (by decide +kernel) rfl) : Cond.fieldLink RX12 56 "ConfessBySizeModel" "keptHas" "[I" ∈ AW), by decide +kernel, tyX12_ok, nmX12, rfl, by decide +kernel⟩
set_option maxRecDepth 100000 in
theorem tp_X12_59_12 : XP RX12 59 12 35 true (.array .int) := ⟨RX12, TX12, 40, "ConfessBySizeModel", tyX12, rfl, by decide, wa_X12, ((AWi 771 (by decide +kernel) rfl) : Cond.fieldLink RX12 59 "ConfessBySizeModel" "keptWho" "[I" ∈ AW), by decide +kernel, tyX12_ok, nmX12, rfl, by decide +kernel⟩
set_option maxRecDepth 100000 in
theorem tp_X12_62_12 : XP RX12 62 12 36 true (.array .int) := ⟨RX12, TX12, 40, "ConfessBySizeModel", tyX12, rfl, by decide, wa_X12, ((AWi 772 (by decide +kernel) rfl) : Cond.fieldLink RX12 62 "ConfessBySizeModel" "keptTriedSize" "[I" ∈ AW), by decide +kernel, tyX12_ok, nmX12, rfl, by decide +kernel⟩
set_option maxRecDepth 100000 in
theorem tp_X12_65_12 : XP RX12 65 12 37 true (.array .int) := ⟨RX12, TX12, 40, "ConfessBySizeModel", tyX12, rfl, by decide, wa_X12, ((AWi 773 (by decide +kernel) rfl) : Cond.fieldLink RX12 65 "ConfessBySizeModel" "keptTriedHand" "[I" ∈ AW), by decide +kernel, tyX12_ok, nmX12, rfl, by decide +kernel⟩
set_option maxRecDepth 100000 in
theorem tp_X12_68_12 : XP RX12 68 12 38 true (.array .int) := ⟨RX12, TX12, 40, "ConfessBySizeModel", tyX12, rfl, by decide, wa_X12, ((AWi 774 (by decide +kernel) rfl) : Cond.fieldLink RX12 68 "ConfessBySizeModel" "keptFits" "[I" ∈ AW), by decide +kernel, tyX12_ok, nmX12, rfl, by decide +kernel⟩
set_option maxRecDepth 100000 in
theorem tp_X12_75_12 : XP RX12 75 12 18 false .int := ⟨RX12, TX12, 40, "ConfessBySizeModel", tyX12, rfl, by decide, wa_X12, ((AWi 754 (by decide +kernel) rfl) : Cond.fieldLink RX12 75 "ConfessBySizeModel" "pageLength" "I" ∈ AW), by decide +kernel, tyX12_ok, nmX12, rfl, by decide +kernel⟩
set_option maxRecDepth 100000 in
theorem tp_X12_86_12 : XP RX12 86 12 22 false .int := ⟨RX12, TX12, 40, "ConfessBySizeModel", tyX12, rfl, by decide, wa_X12, ((AWi 758 (by decide +kernel) rfl) : Cond.fieldLink RX12 86 "ConfessBySizeModel" "newCrimes" "I" ∈ AW), by decide +kernel, tyX12_ok, nmX12, rfl, by decide +kernel⟩
set_option maxRecDepth 100000 in
theorem tp_X12_89_12 : XP RX12 89 12 20 false .boolean := ⟨RX12, TX12, 40, "ConfessBySizeModel", tyX12, rfl, by decide, wa_X12, ((AWi 756 (by decide +kernel) rfl) : Cond.fieldLink RX12 89 "ConfessBySizeModel" "isWhole" "Z" ∈ AW), by decide +kernel, tyX12_ok, nmX12, rfl, by decide +kernel⟩
set_option maxRecDepth 100000 in
theorem tp_X12_93_12 : XP RX12 93 12 21 false .int := ⟨RX12, TX12, 40, "ConfessBySizeModel", tyX12, rfl, by decide, wa_X12, ((AWi 757 (by decide +kernel) rfl) : Cond.fieldLink RX12 93 "ConfessBySizeModel" "newMany" "I" ∈ AW), by decide +kernel, tyX12_ok, nmX12, rfl, by decide +kernel⟩
set_option maxRecDepth 100000 in
theorem tp_X12_106_12 : XP RX12 106 12 1 false .int := ⟨RX12, TX12, 40, "ConfessBySizeModel", tyX12, rfl, by decide, wa_X12, ((AWi 737 (by decide +kernel) rfl) : Cond.fieldLink RX12 106 "ConfessBySizeModel" "people" "I" ∈ AW), by decide +kernel, tyX12_ok, nmX12, rfl, by decide +kernel⟩
set_option maxRecDepth 100000 in
theorem tp_X12_109_12 : XP RX12 109 12 2 false .int := ⟨RX12, TX12, 40, "ConfessBySizeModel", tyX12, rfl, by decide, wa_X12, ((AWi 738 (by decide +kernel) rfl) : Cond.fieldLink RX12 109 "ConfessBySizeModel" "crimes" "I" ∈ AW), by decide +kernel, tyX12_ok, nmX12, rfl, by decide +kernel⟩
set_option maxRecDepth 100000 in
theorem tp_X12_112_12 : XP RX12 112 12 0 false .int := ⟨RX12, TX12, 40, "ConfessBySizeModel", tyX12, rfl, by decide, wa_X12, ((AWi 736 (by decide +kernel) rfl) : Cond.fieldLink RX12 112 "ConfessBySizeModel" "stations" "I" ∈ AW), by decide +kernel, tyX12_ok, nmX12, rfl, by decide +kernel⟩
set_option maxRecDepth 100000 in
theorem tp_X12_115_12 : XP RX12 115 12 10 false .int := ⟨RX12, TX12, 40, "ConfessBySizeModel", tyX12, rfl, by decide, wa_X12, ((AWi 746 (by decide +kernel) rfl) : Cond.fieldLink RX12 115 "ConfessBySizeModel" "stitchMany" "I" ∈ AW), by decide +kernel, tyX12_ok, nmX12, rfl, by decide +kernel⟩
set_option maxRecDepth 100000 in
theorem tp_X12_118_12 : XP RX12 118 12 11 false .int := ⟨RX12, TX12, 40, "ConfessBySizeModel", tyX12, rfl, by decide, wa_X12, ((AWi 747 (by decide +kernel) rfl) : Cond.fieldLink RX12 118 "ConfessBySizeModel" "confessions" "I" ∈ AW), by decide +kernel, tyX12_ok, nmX12, rfl, by decide +kernel⟩
set_option maxRecDepth 100000 in
theorem tp_X12_121_12 : XP RX12 121 12 12 false .int := ⟨RX12, TX12, 40, "ConfessBySizeModel", tyX12, rfl, by decide, wa_X12, ((AWi 748 (by decide +kernel) rfl) : Cond.fieldLink RX12 121 "ConfessBySizeModel" "triedMany" "I" ∈ AW), by decide +kernel, tyX12_ok, nmX12, rfl, by decide +kernel⟩
set_option maxRecDepth 100000 in
theorem tp_X12_179_12 : XP RX12 179 12 23 false .int := ⟨RX12, TX12, 40, "ConfessBySizeModel", tyX12, rfl, by decide, wa_X12, ((AWi 759 (by decide +kernel) rfl) : Cond.fieldLink RX12 179 "ConfessBySizeModel" "matchMany" "I" ∈ AW), by decide +kernel, tyX12_ok, nmX12, rfl, by decide +kernel⟩
set_option maxRecDepth 100000 in
theorem tp_X12_182_12 : XP RX12 182 12 24 false .int := ⟨RX12, TX12, 40, "ConfessBySizeModel", tyX12, rfl, by decide, wa_X12, ((AWi 760 (by decide +kernel) rfl) : Cond.fieldLink RX12 182 "ConfessBySizeModel" "matchReward" "I" ∈ AW), by decide +kernel, tyX12_ok, nmX12, rfl, by decide +kernel⟩
set_option maxRecDepth 100000 in
theorem tp_X12_207_12 : XP RX12 207 12 17 false .int := ⟨RX12, TX12, 40, "ConfessBySizeModel", tyX12, rfl, by decide, wa_X12, ((AWi 753 (by decide +kernel) rfl) : Cond.fieldLink RX12 207 "ConfessBySizeModel" "asks" "I" ∈ AW), by decide +kernel, tyX12_ok, nmX12, rfl, by decide +kernel⟩
set_option maxRecDepth 100000 in
theorem tp_X12_218_12 : XP RX12 218 12 26 false .long := ⟨RX12, TX12, 40, "ConfessBySizeModel", tyX12, rfl, by decide, wa_X12, ((AWi 762 (by decide +kernel) rfl) : Cond.fieldLink RX12 218 "ConfessBySizeModel" "seedNow" "J" ∈ AW), by decide +kernel, tyX12_ok, nmX12, rfl, by decide +kernel⟩
set_option maxRecDepth 100000 in
theorem tp_X12_238_12 : XP RX12 238 12 28 false .boolean := ⟨RX12, TX12, 40, "ConfessBySizeModel", tyX12, rfl, by decide, wa_X12, ((AWi 764 (by decide +kernel) rfl) : Cond.fieldLink RX12 238 "ConfessBySizeModel" "isKept" "Z" ∈ AW), by decide +kernel, tyX12_ok, nmX12, rfl, by decide +kernel⟩
set_option maxRecDepth 100000 in
theorem tp_X12_241_12 : XP RX12 241 12 29 false .int := ⟨RX12, TX12, 40, "ConfessBySizeModel", tyX12, rfl, by decide, wa_X12, ((AWi 765 (by decide +kernel) rfl) : Cond.fieldLink RX12 241 "ConfessBySizeModel" "keptStation" "I" ∈ AW), by decide +kernel, tyX12_ok, nmX12, rfl, by decide +kernel⟩
set_option maxRecDepth 100000 in
theorem tp_X12_244_12 : XP RX12 244 12 30 false .int := ⟨RX12, TX12, 40, "ConfessBySizeModel", tyX12, rfl, by decide, wa_X12, ((AWi 766 (by decide +kernel) rfl) : Cond.fieldLink RX12 244 "ConfessBySizeModel" "keptStitches" "I" ∈ AW), by decide +kernel, tyX12_ok, nmX12, rfl, by decide +kernel⟩
set_option maxRecDepth 100000 in
theorem tp_X12_247_12 : XP RX12 247 12 31 false .int := ⟨RX12, TX12, 40, "ConfessBySizeModel", tyX12, rfl, by decide, wa_X12, ((AWi 767 (by decide +kernel) rfl) : Cond.fieldLink RX12 247 "ConfessBySizeModel" "keptConfessions" "I" ∈ AW), by decide +kernel, tyX12_ok, nmX12, rfl, by decide +kernel⟩
set_option maxRecDepth 100000 in
theorem tp_X12_250_12 : XP RX12 250 12 32 false .int := ⟨RX12, TX12, 40, "ConfessBySizeModel", tyX12, rfl, by decide, wa_X12, ((AWi 768 (by decide +kernel) rfl) : Cond.fieldLink RX12 250 "ConfessBySizeModel" "keptTried" "I" ∈ AW), by decide +kernel, tyX12_ok, nmX12, rfl, by decide +kernel⟩
set_option maxRecDepth 100000 in
theorem tp_X12_258_12 : XP RX12 258 12 39 false .long := ⟨RX12, TX12, 40, "ConfessBySizeModel", tyX12, rfl, by decide, wa_X12, ((AWi 775 (by decide +kernel) rfl) : Cond.fieldLink RX12 258 "ConfessBySizeModel" "h" "J" ∈ AW), by decide +kernel, tyX12_ok, nmX12, rfl, by decide +kernel⟩
set_option maxRecDepth 100000 in
theorem tf_X3_15_0 : XF RX3 15 0 1 := ⟨RX0, TX0, 2, "ConfessBySize$Man", rfl, by decide, wa_X0, ((AWi 308 (by decide +kernel) rfl) : Cond.fieldLink RX3 15 "ConfessBySize$Man" "hand" "I" ∈ AW), by decide +kernel⟩
set_option maxRecDepth 100000 in
theorem tf_X3_15_2 : XF RX3 15 2 1 := ⟨RX2, TX2, 2, "ConfessBySize$Man", rfl, by decide, wa_X2, ((AWi 308 (by decide +kernel) rfl) : Cond.fieldLink RX3 15 "ConfessBySize$Man" "hand" "I" ∈ AW), by decide +kernel⟩
set_option maxRecDepth 100000 in
theorem tf_X3_15_3 : XF RX3 15 3 1 := ⟨RX3, TX3, 2, "ConfessBySize$Man", rfl, by decide, wa_X3, ((AWi 308 (by decide +kernel) rfl) : Cond.fieldLink RX3 15 "ConfessBySize$Man" "hand" "I" ∈ AW), by decide +kernel⟩
set_option maxRecDepth 100000 in
theorem tf_X3_15_8 : XF RX3 15 8 1 := ⟨RX8, TX8, 2, "ConfessBySize$Man", rfl, by decide, wa_X8, ((AWi 308 (by decide +kernel) rfl) : Cond.fieldLink RX3 15 "ConfessBySize$Man" "hand" "I" ∈ AW), by decide +kernel⟩
set_option maxRecDepth 100000 in
theorem tf_X3_15_9 : XF RX3 15 9 1 := ⟨RX9, TX9, 2, "ConfessBySize$Man", rfl, by decide, wa_X9, ((AWi 308 (by decide +kernel) rfl) : Cond.fieldLink RX3 15 "ConfessBySize$Man" "hand" "I" ∈ AW), by decide +kernel⟩
set_option maxRecDepth 100000 in
theorem tp_X3_9_0 : XP RX3 9 0 0 true .int := ⟨RX0, TX0, 2, "ConfessBySize$Man", tyX0, rfl, by decide, wa_X0, ((AWi 306 (by decide +kernel) rfl) : Cond.fieldLink RX3 9 "ConfessBySize$Man" "size" "I" ∈ AW), by decide +kernel, tyX0_ok, nmX0, rfl, by decide +kernel⟩
set_option maxRecDepth 100000 in
theorem tp_X3_9_2 : XP RX3 9 2 0 true .int := ⟨RX2, TX2, 2, "ConfessBySize$Man", tyX2, rfl, by decide, wa_X2, ((AWi 306 (by decide +kernel) rfl) : Cond.fieldLink RX3 9 "ConfessBySize$Man" "size" "I" ∈ AW), by decide +kernel, tyX2_ok, nmX2, rfl, by decide +kernel⟩
set_option maxRecDepth 100000 in
theorem tp_X3_9_3 : XP RX3 9 3 0 true .int := ⟨RX3, TX3, 2, "ConfessBySize$Man", tyX3, rfl, by decide, wa_X3, ((AWi 306 (by decide +kernel) rfl) : Cond.fieldLink RX3 9 "ConfessBySize$Man" "size" "I" ∈ AW), by decide +kernel, tyX3_ok, nmX3, rfl, by decide +kernel⟩
set_option maxRecDepth 100000 in
theorem tp_X3_9_8 : XP RX3 9 8 0 true .int := ⟨RX8, TX8, 2, "ConfessBySize$Man", tyX8, rfl, by decide, wa_X8, ((AWi 306 (by decide +kernel) rfl) : Cond.fieldLink RX3 9 "ConfessBySize$Man" "size" "I" ∈ AW), by decide +kernel, tyX8_ok, nmX8, rfl, by decide +kernel⟩
set_option maxRecDepth 100000 in
theorem tp_X3_9_9 : XP RX3 9 9 0 true .int := ⟨RX9, TX9, 2, "ConfessBySize$Man", tyX9, rfl, by decide, wa_X9, ((AWi 306 (by decide +kernel) rfl) : Cond.fieldLink RX3 9 "ConfessBySize$Man" "size" "I" ∈ AW), by decide +kernel, tyX9_ok, nmX9, rfl, by decide +kernel⟩
set_option maxRecDepth 100000 in
theorem tp_X3_15_0 : XP RX3 15 0 1 true .int := ⟨RX0, TX0, 2, "ConfessBySize$Man", tyX0, rfl, by decide, wa_X0, ((AWi 308 (by decide +kernel) rfl) : Cond.fieldLink RX3 15 "ConfessBySize$Man" "hand" "I" ∈ AW), by decide +kernel, tyX0_ok, nmX0, rfl, by decide +kernel⟩
set_option maxRecDepth 100000 in
theorem tp_X3_15_2 : XP RX3 15 2 1 true .int := ⟨RX2, TX2, 2, "ConfessBySize$Man", tyX2, rfl, by decide, wa_X2, ((AWi 308 (by decide +kernel) rfl) : Cond.fieldLink RX3 15 "ConfessBySize$Man" "hand" "I" ∈ AW), by decide +kernel, tyX2_ok, nmX2, rfl, by decide +kernel⟩
set_option maxRecDepth 100000 in
theorem tp_X3_15_3 : XP RX3 15 3 1 true .int := ⟨RX3, TX3, 2, "ConfessBySize$Man", tyX3, rfl, by decide, wa_X3, ((AWi 308 (by decide +kernel) rfl) : Cond.fieldLink RX3 15 "ConfessBySize$Man" "hand" "I" ∈ AW), by decide +kernel, tyX3_ok, nmX3, rfl, by decide +kernel⟩
set_option maxRecDepth 100000 in
theorem tp_X3_15_8 : XP RX3 15 8 1 true .int := ⟨RX8, TX8, 2, "ConfessBySize$Man", tyX8, rfl, by decide, wa_X8, ((AWi 308 (by decide +kernel) rfl) : Cond.fieldLink RX3 15 "ConfessBySize$Man" "hand" "I" ∈ AW), by decide +kernel, tyX8_ok, nmX8, rfl, by decide +kernel⟩
set_option maxRecDepth 100000 in
theorem tp_X3_15_9 : XP RX3 15 9 1 true .int := ⟨RX9, TX9, 2, "ConfessBySize$Man", tyX9, rfl, by decide, wa_X9, ((AWi 308 (by decide +kernel) rfl) : Cond.fieldLink RX3 15 "ConfessBySize$Man" "hand" "I" ∈ AW), by decide +kernel, tyX9_ok, nmX9, rfl, by decide +kernel⟩
set_option maxRecDepth 100000 in
theorem tf_X4_9_4 : XF RX4 9 4 0 := ⟨RX4, TX4, 7, "ConfessBySize$Matching", rfl, by decide, wa_X4, ((AWi 168 (by decide +kernel) rfl) : Cond.fieldLink RX4 9 "ConfessBySize$Matching" "allowed" "[I" ∈ AW), by decide +kernel⟩
set_option maxRecDepth 100000 in
theorem tf_X4_15_4 : XF RX4 15 4 1 := ⟨RX4, TX4, 7, "ConfessBySize$Matching", rfl, by decide, wa_X4, ((AWi 169 (by decide +kernel) rfl) : Cond.fieldLink RX4 15 "ConfessBySize$Matching" "rewards" "[I" ∈ AW), by decide +kernel⟩
set_option maxRecDepth 100000 in
theorem tf_X4_18_4 : XF RX4 18 4 2 := ⟨RX4, TX4, 7, "ConfessBySize$Matching", rfl, by decide, wa_X4, ((AWi 170 (by decide +kernel) rfl) : Cond.fieldLink RX4 18 "ConfessBySize$Matching" "choice" "[I" ∈ AW), by decide +kernel⟩
set_option maxRecDepth 100000 in
theorem tf_X4_21_4 : XF RX4 21 4 3 := ⟨RX4, TX4, 7, "ConfessBySize$Matching", rfl, by decide, wa_X4, ((AWi 171 (by decide +kernel) rfl) : Cond.fieldLink RX4 21 "ConfessBySize$Matching" "best" "[I" ∈ AW), by decide +kernel⟩
set_option maxRecDepth 100000 in
theorem tf_X4_30_4 : XF RX4 30 4 4 := ⟨RX4, TX4, 7, "ConfessBySize$Matching", rfl, by decide, wa_X4, ((AWi 172 (by decide +kernel) rfl) : Cond.fieldLink RX4 30 "ConfessBySize$Matching" "peopleMany" "I" ∈ AW), by decide +kernel⟩
set_option maxRecDepth 100000 in
theorem tf_X4_34_4 : XF RX4 34 4 5 := ⟨RX4, TX4, 7, "ConfessBySize$Matching", rfl, by decide, wa_X4, ((AWi 173 (by decide +kernel) rfl) : Cond.fieldLink RX4 34 "ConfessBySize$Matching" "bestMany" "I" ∈ AW), by decide +kernel⟩
set_option maxRecDepth 100000 in
theorem tf_X4_37_4 : XF RX4 37 4 6 := ⟨RX4, TX4, 7, "ConfessBySize$Matching", rfl, by decide, wa_X4, ((AWi 175 (by decide +kernel) rfl) : Cond.fieldLink RX4 37 "ConfessBySize$Matching" "bestReward" "I" ∈ AW), by decide +kernel⟩
set_option maxRecDepth 100000 in
theorem tp_X4_9_4 : XP RX4 9 4 0 true (.array .int) := ⟨RX4, TX4, 7, "ConfessBySize$Matching", tyX4, rfl, by decide, wa_X4, ((AWi 168 (by decide +kernel) rfl) : Cond.fieldLink RX4 9 "ConfessBySize$Matching" "allowed" "[I" ∈ AW), by decide +kernel, tyX4_ok, nmX4, rfl, by decide +kernel⟩
set_option maxRecDepth 100000 in
theorem tp_X4_15_4 : XP RX4 15 4 1 true (.array .int) := ⟨RX4, TX4, 7, "ConfessBySize$Matching", tyX4, rfl, by decide, wa_X4, ((AWi 169 (by decide +kernel) rfl) : Cond.fieldLink RX4 15 "ConfessBySize$Matching" "rewards" "[I" ∈ AW), by decide +kernel, tyX4_ok, nmX4, rfl, by decide +kernel⟩
set_option maxRecDepth 100000 in
theorem tp_X4_18_4 : XP RX4 18 4 2 true (.array .int) := ⟨RX4, TX4, 7, "ConfessBySize$Matching", tyX4, rfl, by decide, wa_X4, ((AWi 170 (by decide +kernel) rfl) : Cond.fieldLink RX4 18 "ConfessBySize$Matching" "choice" "[I" ∈ AW), by decide +kernel, tyX4_ok, nmX4, rfl, by decide +kernel⟩
set_option maxRecDepth 100000 in
theorem tp_X4_21_4 : XP RX4 21 4 3 true (.array .int) := ⟨RX4, TX4, 7, "ConfessBySize$Matching", tyX4, rfl, by decide, wa_X4, ((AWi 171 (by decide +kernel) rfl) : Cond.fieldLink RX4 21 "ConfessBySize$Matching" "best" "[I" ∈ AW), by decide +kernel, tyX4_ok, nmX4, rfl, by decide +kernel⟩
set_option maxRecDepth 100000 in
theorem tp_X4_30_4 : XP RX4 30 4 4 false .int := ⟨RX4, TX4, 7, "ConfessBySize$Matching", tyX4, rfl, by decide, wa_X4, ((AWi 172 (by decide +kernel) rfl) : Cond.fieldLink RX4 30 "ConfessBySize$Matching" "peopleMany" "I" ∈ AW), by decide +kernel, tyX4_ok, nmX4, rfl, by decide +kernel⟩
set_option maxRecDepth 100000 in
theorem tp_X4_34_4 : XP RX4 34 4 5 false .int := ⟨RX4, TX4, 7, "ConfessBySize$Matching", tyX4, rfl, by decide, wa_X4, ((AWi 173 (by decide +kernel) rfl) : Cond.fieldLink RX4 34 "ConfessBySize$Matching" "bestMany" "I" ∈ AW), by decide +kernel, tyX4_ok, nmX4, rfl, by decide +kernel⟩
set_option maxRecDepth 100000 in
theorem tp_X4_37_4 : XP RX4 37 4 6 false .int := ⟨RX4, TX4, 7, "ConfessBySize$Matching", tyX4, rfl, by decide, wa_X4, ((AWi 175 (by decide +kernel) rfl) : Cond.fieldLink RX4 37 "ConfessBySize$Matching" "bestReward" "I" ∈ AW), by decide +kernel, tyX4_ok, nmX4, rfl, by decide +kernel⟩
set_option maxRecDepth 100000 in
theorem tf_X5_9_5 : XF RX5 9 5 0 := ⟨RX5, TX5, 2, "ConfessBySize$Page", rfl, by decide, wa_X5, ((AWi 83 (by decide +kernel) rfl) : Cond.fieldLink RX5 9 "ConfessBySize$Page" "codes" "[I" ∈ AW), by decide +kernel⟩
set_option maxRecDepth 100000 in
theorem tf_X5_15_5 : XF RX5 15 5 1 := ⟨RX5, TX5, 2, "ConfessBySize$Page", rfl, by decide, wa_X5, ((AWi 84 (by decide +kernel) rfl) : Cond.fieldLink RX5 15 "ConfessBySize$Page" "length" "I" ∈ AW), by decide +kernel⟩
set_option maxRecDepth 100000 in
theorem tp_X5_9_5 : XP RX5 9 5 0 true (.array .int) := ⟨RX5, TX5, 2, "ConfessBySize$Page", tyX5, rfl, by decide, wa_X5, ((AWi 83 (by decide +kernel) rfl) : Cond.fieldLink RX5 9 "ConfessBySize$Page" "codes" "[I" ∈ AW), by decide +kernel, tyX5_ok, nmX5, rfl, by decide +kernel⟩
set_option maxRecDepth 100000 in
theorem tp_X5_15_5 : XP RX5 15 5 1 false .int := ⟨RX5, TX5, 2, "ConfessBySize$Page", tyX5, rfl, by decide, wa_X5, ((AWi 84 (by decide +kernel) rfl) : Cond.fieldLink RX5 15 "ConfessBySize$Page" "length" "I" ∈ AW), by decide +kernel, tyX5_ok, nmX5, rfl, by decide +kernel⟩
set_option maxRecDepth 100000 in
theorem tk_X6_9 : Cond.classLink RX6 9 RX3 ∈ AW := (AWi 97 (by decide +kernel) rfl)
set_option maxRecDepth 100000 in
theorem tk_X6_17 : Cond.classLink RX6 17 RX1 ∈ AW := (AWi 99 (by decide +kernel) rfl)
set_option maxRecDepth 100000 in
theorem tf_X6_11_6 : XF RX6 11 6 0 := ⟨RX6, TX6, 4, "ConfessBySize$Roll", rfl, by decide, wa_X6, ((AWi 101 (by decide +kernel) rfl) : Cond.fieldLink RX6 11 "ConfessBySize$Roll" "people" "[LConfessBySize$Man;" ∈ AW), by decide +kernel⟩
set_option maxRecDepth 100000 in
theorem tf_X6_19_6 : XF RX6 19 6 1 := ⟨RX6, TX6, 4, "ConfessBySize$Roll", rfl, by decide, wa_X6, ((AWi 102 (by decide +kernel) rfl) : Cond.fieldLink RX6 19 "ConfessBySize$Roll" "crimes" "[LConfessBySize$Crime;" ∈ AW), by decide +kernel⟩
set_option maxRecDepth 100000 in
theorem tf_X6_23_6 : XF RX6 23 6 2 := ⟨RX6, TX6, 4, "ConfessBySize$Roll", rfl, by decide, wa_X6, ((AWi 103 (by decide +kernel) rfl) : Cond.fieldLink RX6 23 "ConfessBySize$Roll" "peopleMany" "I" ∈ AW), by decide +kernel⟩
set_option maxRecDepth 100000 in
theorem tf_X6_27_6 : XF RX6 27 6 3 := ⟨RX6, TX6, 4, "ConfessBySize$Roll", rfl, by decide, wa_X6, ((AWi 104 (by decide +kernel) rfl) : Cond.fieldLink RX6 27 "ConfessBySize$Roll" "crimesMany" "I" ∈ AW), by decide +kernel⟩
set_option maxRecDepth 100000 in
theorem tn_X6_9 : XN RX6 9 3 2 [.int (zI 0), .int (zI 0)] := ⟨RX3, TX3, tyX3, rfl, wa_X3, tyX3_ok, (AWi 97 (by decide +kernel) rfl), (AWi 342 (by decide +kernel) rfl), (AWi 62 (by decide +kernel) rfl), by decide +kernel, fun _ => rfl⟩
set_option maxRecDepth 100000 in
theorem tn_X6_17 : XN RX6 17 1 3 [.int (zI 0), .int (zI 0), .int (zI 0)] := ⟨RX1, TX1, tyX1, rfl, wa_X1, tyX1_ok, (AWi 99 (by decide +kernel) rfl), (AWi 351 (by decide +kernel) rfl), (AWi 67 (by decide +kernel) rfl), by decide +kernel, fun _ => rfl⟩
set_option maxRecDepth 100000 in
theorem tn_X6_60 : XN RX6 60 8 2 [.int (zI 0), .int (zI 0)] := ⟨RX8, TX8, tyX8, rfl, wa_X8, tyX8_ok, (AWi 297 (by decide +kernel) rfl), (AWi 298 (by decide +kernel) rfl), (AWi 63 (by decide +kernel) rfl), by decide +kernel, fun _ => rfl⟩
set_option maxRecDepth 100000 in
theorem tn_X6_65 : XN RX6 65 0 2 [.int (zI 0), .int (zI 0)] := ⟨RX0, TX0, tyX0, rfl, wa_X0, tyX0_ok, (AWi 315 (by decide +kernel) rfl), (AWi 316 (by decide +kernel) rfl), (AWi 64 (by decide +kernel) rfl), by decide +kernel, fun _ => rfl⟩
set_option maxRecDepth 100000 in
theorem tn_X6_68 : XN RX6 68 2 2 [.int (zI 0), .int (zI 0)] := ⟨RX2, TX2, tyX2, rfl, wa_X2, tyX2_ok, (AWi 324 (by decide +kernel) rfl), (AWi 325 (by decide +kernel) rfl), (AWi 65 (by decide +kernel) rfl), by decide +kernel, fun _ => rfl⟩
set_option maxRecDepth 100000 in
theorem tn_X6_71 : XN RX6 71 9 2 [.int (zI 0), .int (zI 0)] := ⟨RX9, TX9, tyX9, rfl, wa_X9, tyX9_ok, (AWi 333 (by decide +kernel) rfl), (AWi 334 (by decide +kernel) rfl), (AWi 66 (by decide +kernel) rfl), by decide +kernel, fun _ => rfl⟩
set_option maxRecDepth 100000 in
theorem tp_X6_11_6 : XP RX6 11 6 0 true (.array (.object "ConfessBySize$Man")) := ⟨RX6, TX6, 4, "ConfessBySize$Roll", tyX6, rfl, by decide, wa_X6, ((AWi 101 (by decide +kernel) rfl) : Cond.fieldLink RX6 11 "ConfessBySize$Roll" "people" "[LConfessBySize$Man;" ∈ AW), by decide +kernel, tyX6_ok, nmX6, rfl, by decide +kernel⟩
set_option maxRecDepth 100000 in
theorem tp_X6_19_6 : XP RX6 19 6 1 true (.array (.object "ConfessBySize$Crime")) := ⟨RX6, TX6, 4, "ConfessBySize$Roll", tyX6, rfl, by decide, wa_X6, ((AWi 102 (by decide +kernel) rfl) : Cond.fieldLink RX6 19 "ConfessBySize$Roll" "crimes" "[LConfessBySize$Crime;" ∈ AW), by decide +kernel, tyX6_ok, nmX6, rfl, by decide +kernel⟩
set_option maxRecDepth 100000 in
theorem tp_X6_23_6 : XP RX6 23 6 2 false .int := ⟨RX6, TX6, 4, "ConfessBySize$Roll", tyX6, rfl, by decide, wa_X6, ((AWi 103 (by decide +kernel) rfl) : Cond.fieldLink RX6 23 "ConfessBySize$Roll" "peopleMany" "I" ∈ AW), by decide +kernel, tyX6_ok, nmX6, rfl, by decide +kernel⟩
set_option maxRecDepth 100000 in
theorem tp_X6_27_6 : XP RX6 27 6 3 false .int := ⟨RX6, TX6, 4, "ConfessBySize$Roll", tyX6, rfl, by decide, wa_X6, ((AWi 104 (by decide +kernel) rfl) : Cond.fieldLink RX6 27 "ConfessBySize$Roll" "crimesMany" "I" ∈ AW), by decide +kernel, tyX6_ok, nmX6, rfl, by decide +kernel⟩
set_option maxRecDepth 100000 in
theorem tf_X7_9_7 : XF RX7 9 7 0 := ⟨RX7, TX7, 5, "ConfessBySize$Standing", rfl, by decide, wa_X7, ((AWi 143 (by decide +kernel) rfl) : Cond.fieldLink RX7 9 "ConfessBySize$Standing" "sizes" "[I" ∈ AW), by decide +kernel⟩
set_option maxRecDepth 100000 in
theorem tf_X7_15_7 : XF RX7 15 7 1 := ⟨RX7, TX7, 5, "ConfessBySize$Standing", rfl, by decide, wa_X7, ((AWi 144 (by decide +kernel) rfl) : Cond.fieldLink RX7 15 "ConfessBySize$Standing" "hasConfessed" "[I" ∈ AW), by decide +kernel⟩
set_option maxRecDepth 100000 in
theorem tf_X7_21_7 : XF RX7 21 7 2 := ⟨RX7, TX7, 5, "ConfessBySize$Standing", rfl, by decide, wa_X7, ((AWi 145 (by decide +kernel) rfl) : Cond.fieldLink RX7 21 "ConfessBySize$Standing" "trials" "LConfessBySize$Trials;" ∈ AW), by decide +kernel⟩
set_option maxRecDepth 100000 in
theorem tf_X7_31_1 : XF RX7 31 1 0 := ⟨RX1, TX1, 3, "ConfessBySize$Crime", rfl, by decide, wa_X1, ((AWi 357 (by decide +kernel) rfl) : Cond.fieldLink RX7 31 "ConfessBySize$Crime" "toldSize" "I" ∈ AW), by decide +kernel⟩
set_option maxRecDepth 100000 in
theorem tf_X7_40_7 : XF RX7 40 7 3 := ⟨RX7, TX7, 5, "ConfessBySize$Standing", rfl, by decide, wa_X7, ((AWi 147 (by decide +kernel) rfl) : Cond.fieldLink RX7 40 "ConfessBySize$Standing" "stitchesMade" "I" ∈ AW), by decide +kernel⟩
set_option maxRecDepth 100000 in
theorem tf_X7_43_7 : XF RX7 43 7 4 := ⟨RX7, TX7, 5, "ConfessBySize$Standing", rfl, by decide, wa_X7, ((AWi 149 (by decide +kernel) rfl) : Cond.fieldLink RX7 43 "ConfessBySize$Standing" "timesConfessed" "I" ∈ AW), by decide +kernel⟩
set_option maxRecDepth 100000 in
theorem tn_X7_18 : XN RX7 18 10 5 [.null, .null, .null, .null, .int (zI 0)] := ⟨RX10, TX10, tyX10, rfl, wa_X10, tyX10_ok, (AWi 120 (by decide +kernel) rfl), (AWi 121 (by decide +kernel) rfl), (AWi 58 (by decide +kernel) rfl), by decide +kernel, fun _ => rfl⟩
set_option maxRecDepth 100000 in
theorem tp_X7_9_7 : XP RX7 9 7 0 true (.array .int) := ⟨RX7, TX7, 5, "ConfessBySize$Standing", tyX7, rfl, by decide, wa_X7, ((AWi 143 (by decide +kernel) rfl) : Cond.fieldLink RX7 9 "ConfessBySize$Standing" "sizes" "[I" ∈ AW), by decide +kernel, tyX7_ok, nmX7, rfl, by decide +kernel⟩
set_option maxRecDepth 100000 in
theorem tp_X7_15_7 : XP RX7 15 7 1 true (.array .int) := ⟨RX7, TX7, 5, "ConfessBySize$Standing", tyX7, rfl, by decide, wa_X7, ((AWi 144 (by decide +kernel) rfl) : Cond.fieldLink RX7 15 "ConfessBySize$Standing" "hasConfessed" "[I" ∈ AW), by decide +kernel, tyX7_ok, nmX7, rfl, by decide +kernel⟩
set_option maxRecDepth 100000 in
theorem tp_X7_21_7 : XP RX7 21 7 2 true (.object "ConfessBySize$Trials") := ⟨RX7, TX7, 5, "ConfessBySize$Standing", tyX7, rfl, by decide, wa_X7, ((AWi 145 (by decide +kernel) rfl) : Cond.fieldLink RX7 21 "ConfessBySize$Standing" "trials" "LConfessBySize$Trials;" ∈ AW), by decide +kernel, tyX7_ok, nmX7, rfl, by decide +kernel⟩
set_option maxRecDepth 100000 in
theorem tp_X7_40_7 : XP RX7 40 7 3 false .int := ⟨RX7, TX7, 5, "ConfessBySize$Standing", tyX7, rfl, by decide, wa_X7, ((AWi 147 (by decide +kernel) rfl) : Cond.fieldLink RX7 40 "ConfessBySize$Standing" "stitchesMade" "I" ∈ AW), by decide +kernel, tyX7_ok, nmX7, rfl, by decide +kernel⟩
set_option maxRecDepth 100000 in
theorem tp_X7_43_7 : XP RX7 43 7 4 false .int := ⟨RX7, TX7, 5, "ConfessBySize$Standing", tyX7, rfl, by decide, wa_X7, ((AWi 149 (by decide +kernel) rfl) : Cond.fieldLink RX7 43 "ConfessBySize$Standing" "timesConfessed" "I" ∈ AW), by decide +kernel, tyX7_ok, nmX7, rfl, by decide +kernel⟩
set_option maxRecDepth 100000 in
theorem tm_X11_init : XMI yX11_init cX11_init 1 none 0 := ⟨(AWi 73 (by decide +kernel) rfl), (AWi 54 (by decide +kernel) rfl), by decide +kernel, by decide +kernel, by decide +kernel⟩
set_option maxRecDepth 100000 in
theorem tm_X5_init : XMI yX5_init cX5_init 1 none 0 := ⟨(AWi 81 (by decide +kernel) rfl), (AWi 55 (by decide +kernel) rfl), by decide +kernel, by decide +kernel, by decide +kernel⟩
set_option maxRecDepth 100000 in
theorem tm_X6_init : XMI yX6_init cX6_init 1 none 0 := ⟨(AWi 95 (by decide +kernel) rfl), (AWi 56 (by decide +kernel) rfl), by decide +kernel, by decide +kernel, by decide +kernel⟩
set_option maxRecDepth 100000 in
theorem tm_X7_init : XMI yX7_init cX7_init 2 none 0 := ⟨(AWi 118 (by decide +kernel) rfl), (AWi 57 (by decide +kernel) rfl), by decide +kernel, by decide +kernel, by decide +kernel⟩
set_option maxRecDepth 100000 in
theorem tm_X10_init : XMI yX10_init cX10_init 1 none 0 := ⟨(AWi 124 (by decide +kernel) rfl), (AWi 58 (by decide +kernel) rfl), by decide +kernel, by decide +kernel, by decide +kernel⟩
set_option maxRecDepth 100000 in
theorem tm_X4_init : XMI yX4_init cX4_init 1 none 0 := ⟨(AWi 166 (by decide +kernel) rfl), (AWi 59 (by decide +kernel) rfl), by decide +kernel, by decide +kernel, by decide +kernel⟩
set_option maxRecDepth 100000 in
theorem tm_X11_letter : XMI yX11_letter cX11_letter 2 (some FieldType.int) 1 := ⟨(AWi 223 (by decide +kernel) rfl), (AWi 54 (by decide +kernel) rfl), by decide +kernel, by decide +kernel, by decide +kernel⟩
set_option maxRecDepth 100000 in
theorem tm_X5_isFull : XMI yX5_isFull cX5_isFull 1 (some FieldType.boolean) 0 := ⟨(AWi 227 (by decide +kernel) rfl), (AWi 55 (by decide +kernel) rfl), by decide +kernel, by decide +kernel, by decide +kernel⟩
set_option maxRecDepth 100000 in
theorem tm_X5_add : XMI yX5_add cX5_add 2 none 1 := ⟨(AWi 231 (by decide +kernel) rfl), (AWi 55 (by decide +kernel) rfl), by decide +kernel, by decide +kernel, by decide +kernel⟩
set_option maxRecDepth 100000 in
theorem tm_X5_length : XMI yX5_length cX5_length 1 (some FieldType.int) 0 := ⟨(AWi 235 (by decide +kernel) rfl), (AWi 55 (by decide +kernel) rfl), by decide +kernel, by decide +kernel, by decide +kernel⟩
set_option maxRecDepth 100000 in
theorem tm_X11_blank : XMI yX11_blank cX11_blank 2 (some FieldType.int) 0 := ⟨(AWi 239 (by decide +kernel) rfl), (AWi 54 (by decide +kernel) rfl), by decide +kernel, by decide +kernel, by decide +kernel⟩
set_option maxRecDepth 100000 in
theorem tm_X5_clear : XMI yX5_clear cX5_clear 1 none 0 := ⟨(AWi 243 (by decide +kernel) rfl), (AWi 55 (by decide +kernel) rfl), by decide +kernel, by decide +kernel, by decide +kernel⟩
set_option maxRecDepth 100000 in
theorem tm_X11_fault : XMI yX11_fault cX11_fault 1 (some FieldType.int) 0 := ⟨(AWi 247 (by decide +kernel) rfl), (AWi 54 (by decide +kernel) rfl), by decide +kernel, by decide +kernel, by decide +kernel⟩
set_option maxRecDepth 100000 in
theorem tm_X5_firstFault : XMI yX5_firstFault cX5_firstFault 4 (some FieldType.int) 0 := ⟨(AWi 251 (by decide +kernel) rfl), (AWi 55 (by decide +kernel) rfl), by decide +kernel, by decide +kernel, by decide +kernel⟩
set_option maxRecDepth 100000 in
theorem tm_X5_semicolon : XMI yX5_semicolon cX5_semicolon 2 (some FieldType.int) 0 := ⟨(AWi 255 (by decide +kernel) rfl), (AWi 55 (by decide +kernel) rfl), by decide +kernel, by decide +kernel, by decide +kernel⟩
set_option maxRecDepth 100000 in
theorem tm_X5_codeAt : XMI yX5_codeAt cX5_codeAt 2 (some FieldType.int) 1 := ⟨(AWi 259 (by decide +kernel) rfl), (AWi 55 (by decide +kernel) rfl), by decide +kernel, by decide +kernel, by decide +kernel⟩
set_option maxRecDepth 100000 in
theorem tm_X5_isOfPeople : XMI yX5_isOfPeople cX5_isOfPeople 3 (some FieldType.boolean) 2 := ⟨(AWi 262 (by decide +kernel) rfl), (AWi 55 (by decide +kernel) rfl), by decide +kernel, by decide +kernel, by decide +kernel⟩
set_option maxRecDepth 100000 in
theorem tm_X5_isKindLetter : XMI yX5_isKindLetter cX5_isKindLetter 1 (some FieldType.boolean) 1 := ⟨(AWi 265 (by decide +kernel) rfl), (AWi 55 (by decide +kernel) rfl), by decide +kernel, by decide +kernel, by decide +kernel⟩
set_option maxRecDepth 100000 in
theorem tm_X5_isDigit : XMI yX5_isDigit cX5_isDigit 3 (some FieldType.boolean) 3 := ⟨(AWi 268 (by decide +kernel) rfl), (AWi 55 (by decide +kernel) rfl), by decide +kernel, by decide +kernel, by decide +kernel⟩
set_option maxRecDepth 100000 in
theorem tm_X5_isOfCrimes : XMI yX5_isOfCrimes cX5_isOfCrimes 2 (some FieldType.boolean) 2 := ⟨(AWi 271 (by decide +kernel) rfl), (AWi 55 (by decide +kernel) rfl), by decide +kernel, by decide +kernel, by decide +kernel⟩
set_option maxRecDepth 100000 in
theorem tm_X11_station : XMI yX11_station cX11_station 1 (some FieldType.int) 0 := ⟨(AWi 275 (by decide +kernel) rfl), (AWi 54 (by decide +kernel) rfl), by decide +kernel, by decide +kernel, by decide +kernel⟩
set_option maxRecDepth 100000 in
theorem tm_X5_isStation : XMI yX5_isStation cX5_isStation 2 (some FieldType.boolean) 0 := ⟨(AWi 279 (by decide +kernel) rfl), (AWi 55 (by decide +kernel) rfl), by decide +kernel, by decide +kernel, by decide +kernel⟩
set_option maxRecDepth 100000 in
theorem tm_X6_read : XMI yX6_read cX6_read 4 none 1 := ⟨(AWi 284 (by decide +kernel) rfl), (AWi 56 (by decide +kernel) rfl), by decide +kernel, by decide +kernel, by decide +kernel⟩
set_option maxRecDepth 100000 in
theorem tm_J9_min_7cf53 : XMI yJ9_min_7cf53 cJ9_min_7cf53 2 (some FieldType.int) 2 := ⟨(AWi 288 (by decide +kernel) rfl), (AWi 61 (by decide +kernel) rfl), by decide +kernel, by decide +kernel, by decide +kernel⟩
set_option maxRecDepth 100000 in
theorem tm_X6_manAt : XMI yX6_manAt cX6_manAt 4 (some (FieldType.object "ConfessBySize$Man")) 2 := ⟨(AWi 291 (by decide +kernel) rfl), (AWi 56 (by decide +kernel) rfl), by decide +kernel, by decide +kernel, by decide +kernel⟩
set_option maxRecDepth 100000 in
theorem tm_X5_digitAt : XMI yX5_digitAt cX5_digitAt 2 (some FieldType.int) 1 := ⟨(AWi 295 (by decide +kernel) rfl), (AWi 55 (by decide +kernel) rfl), by decide +kernel, by decide +kernel, by decide +kernel⟩
set_option maxRecDepth 100000 in
theorem tm_X8_init : XMI yX8_init cX8_init 3 none 2 := ⟨(AWi 301 (by decide +kernel) rfl), (AWi 63 (by decide +kernel) rfl), by decide +kernel, by decide +kernel, by decide +kernel⟩
set_option maxRecDepth 100000 in
theorem tm_X3_init : XMI yX3_init cX3_init 3 none 2 := ⟨(AWi 304 (by decide +kernel) rfl), (AWi 62 (by decide +kernel) rfl), by decide +kernel, by decide +kernel, by decide +kernel⟩
set_option maxRecDepth 100000 in
theorem tm_X0_init : XMI yX0_init cX0_init 3 none 2 := ⟨(AWi 319 (by decide +kernel) rfl), (AWi 64 (by decide +kernel) rfl), by decide +kernel, by decide +kernel, by decide +kernel⟩
set_option maxRecDepth 100000 in
theorem tm_X2_init : XMI yX2_init cX2_init 3 none 2 := ⟨(AWi 328 (by decide +kernel) rfl), (AWi 65 (by decide +kernel) rfl), by decide +kernel, by decide +kernel, by decide +kernel⟩
set_option maxRecDepth 100000 in
theorem tm_X9_init : XMI yX9_init cX9_init 3 none 2 := ⟨(AWi 337 (by decide +kernel) rfl), (AWi 66 (by decide +kernel) rfl), by decide +kernel, by decide +kernel, by decide +kernel⟩
set_option maxRecDepth 100000 in
theorem tm_X6_crimeAt : XMI yX6_crimeAt cX6_crimeAt 2 (some (FieldType.object "ConfessBySize$Crime")) 2 := ⟨(AWi 350 (by decide +kernel) rfl), (AWi 56 (by decide +kernel) rfl), by decide +kernel, by decide +kernel, by decide +kernel⟩
set_option maxRecDepth 100000 in
theorem tm_X1_init : XMI yX1_init cX1_init 4 none 3 := ⟨(AWi 354 (by decide +kernel) rfl), (AWi 67 (by decide +kernel) rfl), by decide +kernel, by decide +kernel, by decide +kernel⟩
set_option maxRecDepth 100000 in
theorem tm_X7_begin : XMI yX7_begin cX7_begin 4 none 1 := ⟨(AWi 372 (by decide +kernel) rfl), (AWi 57 (by decide +kernel) rfl), by decide +kernel, by decide +kernel, by decide +kernel⟩
set_option maxRecDepth 100000 in
theorem tm_X6_crimeOf : XMI yX6_crimeOf cX6_crimeOf 2 (some (FieldType.object "ConfessBySize$Crime")) 1 := ⟨(AWi 376 (by decide +kernel) rfl), (AWi 56 (by decide +kernel) rfl), by decide +kernel, by decide +kernel, by decide +kernel⟩
set_option maxRecDepth 100000 in
theorem tm_X10_clear : XMI yX10_clear cX10_clear 1 none 0 := ⟨(AWi 380 (by decide +kernel) rfl), (AWi 58 (by decide +kernel) rfl), by decide +kernel, by decide +kernel, by decide +kernel⟩
set_option maxRecDepth 100000 in
theorem tm_X6_crimesMany : XMI yX6_crimesMany cX6_crimesMany 1 (some FieldType.int) 0 := ⟨(AWi 384 (by decide +kernel) rfl), (AWi 56 (by decide +kernel) rfl), by decide +kernel, by decide +kernel, by decide +kernel⟩
set_option maxRecDepth 100000 in
theorem tm_X11_about : XMI yX11_about cX11_about 4 (some FieldType.int) 2 := ⟨(AWi 388 (by decide +kernel) rfl), (AWi 54 (by decide +kernel) rfl), by decide +kernel, by decide +kernel, by decide +kernel⟩
set_option maxRecDepth 100000 in
theorem tm_X6_manOf : XMI yX6_manOf cX6_manOf 2 (some (FieldType.object "ConfessBySize$Man")) 1 := ⟨(AWi 392 (by decide +kernel) rfl), (AWi 56 (by decide +kernel) rfl), by decide +kernel, by decide +kernel, by decide +kernel⟩
set_option maxRecDepth 100000 in
theorem tm_X0_kind : XMI yX0_kind cX0_kind 1 (some FieldType.int) 0 := ⟨(AWi 399 (by decide +kernel) rfl), (AWi 64 (by decide +kernel) rfl), by decide +kernel, by decide +kernel, by decide +kernel⟩
set_option maxRecDepth 100000 in
theorem tm_X2_kind : XMI yX2_kind cX2_kind 1 (some FieldType.int) 0 := ⟨(AWi 402 (by decide +kernel) rfl), (AWi 65 (by decide +kernel) rfl), by decide +kernel, by decide +kernel, by decide +kernel⟩
set_option maxRecDepth 100000 in
theorem tm_X8_kind : XMI yX8_kind cX8_kind 1 (some FieldType.int) 0 := ⟨(AWi 405 (by decide +kernel) rfl), (AWi 63 (by decide +kernel) rfl), by decide +kernel, by decide +kernel, by decide +kernel⟩
set_option maxRecDepth 100000 in
theorem tm_X9_kind : XMI yX9_kind cX9_kind 1 (some FieldType.int) 0 := ⟨(AWi 408 (by decide +kernel) rfl), (AWi 66 (by decide +kernel) rfl), by decide +kernel, by decide +kernel, by decide +kernel⟩
set_option maxRecDepth 100000 in
theorem tm_X3_kind : XMI yX3_kind cX3_kind 1 (some FieldType.int) 0 := ⟨(AWi 409 (by decide +kernel) rfl), (AWi 62 (by decide +kernel) rfl), by decide +kernel, by decide +kernel, by decide +kernel⟩
set_option maxRecDepth 100000 in
theorem tm_X0_bears : XMI yX0_bears cX0_bears 1 (some FieldType.int) 0 := ⟨(AWi 416 (by decide +kernel) rfl), (AWi 64 (by decide +kernel) rfl), by decide +kernel, by decide +kernel, by decide +kernel⟩
set_option maxRecDepth 100000 in
theorem tm_X8_bears : XMI yX8_bears cX8_bears 1 (some FieldType.int) 0 := ⟨(AWi 420 (by decide +kernel) rfl), (AWi 63 (by decide +kernel) rfl), by decide +kernel, by decide +kernel, by decide +kernel⟩
set_option maxRecDepth 100000 in
theorem tm_X3_bears : XMI yX3_bears cX3_bears 1 (some FieldType.int) 0 := ⟨(AWi 422 (by decide +kernel) rfl), (AWi 62 (by decide +kernel) rfl), by decide +kernel, by decide +kernel, by decide +kernel⟩
set_option maxRecDepth 100000 in
theorem tm_X7_crimeOn : XMI yX7_crimeOn cX7_crimeOn 2 (some FieldType.int) 1 := ⟨(AWi 426 (by decide +kernel) rfl), (AWi 57 (by decide +kernel) rfl), by decide +kernel, by decide +kernel, by decide +kernel⟩
set_option maxRecDepth 100000 in
theorem tm_X11_paidTo : XMI yX11_paidTo cX11_paidTo 4 (some FieldType.int) 2 := ⟨(AWi 430 (by decide +kernel) rfl), (AWi 54 (by decide +kernel) rfl), by decide +kernel, by decide +kernel, by decide +kernel⟩
set_option maxRecDepth 100000 in
theorem tm_X11_crimesFitting : XMI yX11_crimesFitting cX11_crimesFitting 4 (some FieldType.int) 1 := ⟨(AWi 435 (by decide +kernel) rfl), (AWi 54 (by decide +kernel) rfl), by decide +kernel, by decide +kernel, by decide +kernel⟩
set_option maxRecDepth 100000 in
theorem tm_X7_sizeOf : XMI yX7_sizeOf cX7_sizeOf 2 (some FieldType.int) 1 := ⟨(AWi 439 (by decide +kernel) rfl), (AWi 57 (by decide +kernel) rfl), by decide +kernel, by decide +kernel, by decide +kernel⟩
set_option maxRecDepth 100000 in
theorem tm_X11_isFitting : XMI yX11_isFitting cX11_isFitting 6 (some FieldType.boolean) 3 := ⟨(AWi 443 (by decide +kernel) rfl), (AWi 54 (by decide +kernel) rfl), by decide +kernel, by decide +kernel, by decide +kernel⟩
set_option maxRecDepth 100000 in
theorem tm_X3_wouldFit : XMI yX3_wouldFit cX3_wouldFit 4 (some FieldType.boolean) 3 := ⟨(AWi 452 (by decide +kernel) rfl), (AWi 62 (by decide +kernel) rfl), by decide +kernel, by decide +kernel, by decide +kernel⟩
set_option maxRecDepth 100000 in
theorem tm_X9_hasHandLike : XMI yX9_hasHandLike cX9_hasHandLike 2 (some FieldType.boolean) 1 := ⟨(AWi 462 (by decide +kernel) rfl), (AWi 66 (by decide +kernel) rfl), by decide +kernel, by decide +kernel, by decide +kernel⟩
set_option maxRecDepth 100000 in
theorem tm_X3_hasHandLike : XMI yX3_hasHandLike cX3_hasHandLike 2 (some FieldType.boolean) 1 := ⟨(AWi 463 (by decide +kernel) rfl), (AWi 62 (by decide +kernel) rfl), by decide +kernel, by decide +kernel, by decide +kernel⟩
set_option maxRecDepth 100000 in
theorem tm_X2_counted : XMI yX2_counted cX2_counted 2 (some FieldType.int) 1 := ⟨(AWi 471 (by decide +kernel) rfl), (AWi 65 (by decide +kernel) rfl), by decide +kernel, by decide +kernel, by decide +kernel⟩
set_option maxRecDepth 100000 in
theorem tm_X3_counted : XMI yX3_counted cX3_counted 2 (some FieldType.int) 1 := ⟨(AWi 474 (by decide +kernel) rfl), (AWi 62 (by decide +kernel) rfl), by decide +kernel, by decide +kernel, by decide +kernel⟩
set_option maxRecDepth 100000 in
theorem tm_J9_abs_0f7a4 : XMI yJ9_abs_0f7a4 cJ9_abs_0f7a4 1 (some FieldType.int) 1 := ⟨(AWi 477 (by decide +kernel) rfl), (AWi 61 (by decide +kernel) rfl), by decide +kernel, by decide +kernel, by decide +kernel⟩
set_option maxRecDepth 100000 in
theorem tm_X11_sizesLeft : XMI yX11_sizesLeft cX11_sizesLeft 5 (some FieldType.int) 1 := ⟨(AWi 482 (by decide +kernel) rfl), (AWi 54 (by decide +kernel) rfl), by decide +kernel, by decide +kernel, by decide +kernel⟩
set_option maxRecDepth 100000 in
theorem tm_X10_allow : XMI yX10_allow cX10_allow 6 (some FieldType.boolean) 3 := ⟨(AWi 486 (by decide +kernel) rfl), (AWi 58 (by decide +kernel) rfl), by decide +kernel, by decide +kernel, by decide +kernel⟩
set_option maxRecDepth 100000 in
theorem tm_X11_bitOfSize : XMI yX11_bitOfSize cX11_bitOfSize 1 (some FieldType.int) 1 := ⟨(AWi 490 (by decide +kernel) rfl), (AWi 54 (by decide +kernel) rfl), by decide +kernel, by decide +kernel, by decide +kernel⟩
set_option maxRecDepth 100000 in
theorem tm_X11_nextToTry : XMI yX11_nextToTry cX11_nextToTry 7 (some FieldType.int) 1 := ⟨(AWi 494 (by decide +kernel) rfl), (AWi 54 (by decide +kernel) rfl), by decide +kernel, by decide +kernel, by decide +kernel⟩
set_option maxRecDepth 100000 in
theorem tm_X11_leftAtWorst : XMI yX11_leftAtWorst cX11_leftAtWorst 9 (some FieldType.int) 3 := ⟨(AWi 498 (by decide +kernel) rfl), (AWi 54 (by decide +kernel) rfl), by decide +kernel, by decide +kernel, by decide +kernel⟩
set_option maxRecDepth 100000 in
theorem tm_J6_bitCount_0f7a4 : XMI yJ6_bitCount_0f7a4 cJ6_bitCount_0f7a4 1 (some FieldType.int) 1 := ⟨(AWi 501 (by decide +kernel) rfl), (AWi 68 (by decide +kernel) rfl), by decide +kernel, by decide +kernel, by decide +kernel⟩
set_option maxRecDepth 100000 in
theorem tm_J9_max_7cf53 : XMI yJ9_max_7cf53 cJ9_max_7cf53 2 (some FieldType.int) 2 := ⟨(AWi 507 (by decide +kernel) rfl), (AWi 61 (by decide +kernel) rfl), by decide +kernel, by decide +kernel, by decide +kernel⟩
set_option maxRecDepth 100000 in
theorem tm_X11_as : XMI yX11_as cX11_as 4 (some FieldType.int) 2 := ⟨(AWi 511 (by decide +kernel) rfl), (AWi 54 (by decide +kernel) rfl), by decide +kernel, by decide +kernel, by decide +kernel⟩
set_option maxRecDepth 100000 in
theorem tm_X11_isOfKind : XMI yX11_isOfKind cX11_isOfKind 2 (some FieldType.boolean) 2 := ⟨(AWi 514 (by decide +kernel) rfl), (AWi 54 (by decide +kernel) rfl), by decide +kernel, by decide +kernel, by decide +kernel⟩
set_option maxRecDepth 100000 in
theorem tm_X11_crime : XMI yX11_crime cX11_crime 4 (some FieldType.int) 2 := ⟨(AWi 522 (by decide +kernel) rfl), (AWi 54 (by decide +kernel) rfl), by decide +kernel, by decide +kernel, by decide +kernel⟩
set_option maxRecDepth 100000 in
theorem tm_X7_hangsOn : XMI yX7_hangsOn cX7_hangsOn 3 (some FieldType.int) 1 := ⟨(AWi 526 (by decide +kernel) rfl), (AWi 57 (by decide +kernel) rfl), by decide +kernel, by decide +kernel, by decide +kernel⟩
set_option maxRecDepth 100000 in
theorem tm_X11_peopleFitted : XMI yX11_peopleFitted cX11_peopleFitted 4 (some FieldType.int) 1 := ⟨(AWi 530 (by decide +kernel) rfl), (AWi 54 (by decide +kernel) rfl), by decide +kernel, by decide +kernel, by decide +kernel⟩
set_option maxRecDepth 100000 in
theorem tm_X6_peopleMany : XMI yX6_peopleMany cX6_peopleMany 1 (some FieldType.int) 0 := ⟨(AWi 534 (by decide +kernel) rfl), (AWi 56 (by decide +kernel) rfl), by decide +kernel, by decide +kernel, by decide +kernel⟩
set_option maxRecDepth 100000 in
theorem tm_X11_halvesOf : XMI yX11_halvesOf cX11_halvesOf 4 (some FieldType.int) 1 := ⟨(AWi 538 (by decide +kernel) rfl), (AWi 54 (by decide +kernel) rfl), by decide +kernel, by decide +kernel, by decide +kernel⟩
set_option maxRecDepth 100000 in
theorem tm_X11_canGoHalves : XMI yX11_canGoHalves cX11_canGoHalves 7 (some FieldType.boolean) 3 := ⟨(AWi 542 (by decide +kernel) rfl), (AWi 54 (by decide +kernel) rfl), by decide +kernel, by decide +kernel, by decide +kernel⟩
set_option maxRecDepth 100000 in
theorem tm_X11_confess : XMI yX11_confess cX11_confess 3 (some FieldType.int) 2 := ⟨(AWi 548 (by decide +kernel) rfl), (AWi 54 (by decide +kernel) rfl), by decide +kernel, by decide +kernel, by decide +kernel⟩
set_option maxRecDepth 100000 in
theorem tm_X11_mayConfess : XMI yX11_mayConfess cX11_mayConfess 4 (some FieldType.boolean) 3 := ⟨(AWi 552 (by decide +kernel) rfl), (AWi 54 (by decide +kernel) rfl), by decide +kernel, by decide +kernel, by decide +kernel⟩
set_option maxRecDepth 100000 in
theorem tm_X11_isFree : XMI yX11_isFree cX11_isFree 4 (some FieldType.boolean) 2 := ⟨(AWi 556 (by decide +kernel) rfl), (AWi 54 (by decide +kernel) rfl), by decide +kernel, by decide +kernel, by decide +kernel⟩
set_option maxRecDepth 100000 in
theorem tm_X0_doesConfess : XMI yX0_doesConfess cX0_doesConfess 1 (some FieldType.boolean) 0 := ⟨(AWi 563 (by decide +kernel) rfl), (AWi 64 (by decide +kernel) rfl), by decide +kernel, by decide +kernel, by decide +kernel⟩
set_option maxRecDepth 100000 in
theorem tm_X3_doesConfess : XMI yX3_doesConfess cX3_doesConfess 1 (some FieldType.boolean) 0 := ⟨(AWi 567 (by decide +kernel) rfl), (AWi 62 (by decide +kernel) rfl), by decide +kernel, by decide +kernel, by decide +kernel⟩
set_option maxRecDepth 100000 in
theorem tm_X7_hang : XMI yX7_hang cX7_hang 3 none 2 := ⟨(AWi 571 (by decide +kernel) rfl), (AWi 57 (by decide +kernel) rfl), by decide +kernel, by decide +kernel, by decide +kernel⟩
set_option maxRecDepth 100000 in
theorem tm_X11_recant : XMI yX11_recant cX11_recant 3 (some FieldType.int) 1 := ⟨(AWi 575 (by decide +kernel) rfl), (AWi 54 (by decide +kernel) rfl), by decide +kernel, by decide +kernel, by decide +kernel⟩
set_option maxRecDepth 100000 in
theorem tm_X11_alter : XMI yX11_alter cX11_alter 4 (some FieldType.int) 2 := ⟨(AWi 579 (by decide +kernel) rfl), (AWi 54 (by decide +kernel) rfl), by decide +kernel, by decide +kernel, by decide +kernel⟩
set_option maxRecDepth 100000 in
theorem tm_X11_isSize : XMI yX11_isSize cX11_isSize 1 (some FieldType.boolean) 1 := ⟨(AWi 582 (by decide +kernel) rfl), (AWi 54 (by decide +kernel) rfl), by decide +kernel, by decide +kernel, by decide +kernel⟩
set_option maxRecDepth 100000 in
theorem tm_X7_resize : XMI yX7_resize cX7_resize 3 none 2 := ⟨(AWi 586 (by decide +kernel) rfl), (AWi 57 (by decide +kernel) rfl), by decide +kernel, by decide +kernel, by decide +kernel⟩
set_option maxRecDepth 100000 in
theorem tm_X11_match : XMI yX11_match cX11_match 2 (some FieldType.int) 1 := ⟨(AWi 590 (by decide +kernel) rfl), (AWi 54 (by decide +kernel) rfl), by decide +kernel, by decide +kernel, by decide +kernel⟩
set_option maxRecDepth 100000 in
theorem tm_X11_isOfMatch : XMI yX11_isOfMatch cX11_isOfMatch 1 (some FieldType.boolean) 1 := ⟨(AWi 593 (by decide +kernel) rfl), (AWi 54 (by decide +kernel) rfl), by decide +kernel, by decide +kernel, by decide +kernel⟩
set_option maxRecDepth 100000 in
theorem tm_X11_isOpen : XMI yX11_isOpen cX11_isOpen 1 (some FieldType.boolean) 0 := ⟨(AWi 597 (by decide +kernel) rfl), (AWi 54 (by decide +kernel) rfl), by decide +kernel, by decide +kernel, by decide +kernel⟩
set_option maxRecDepth 100000 in
theorem tm_X11_findMatch : XMI yX11_findMatch cX11_findMatch 3 none 0 := ⟨(AWi 601 (by decide +kernel) rfl), (AWi 54 (by decide +kernel) rfl), by decide +kernel, by decide +kernel, by decide +kernel⟩
set_option maxRecDepth 100000 in
theorem tm_X4_begin : XMI yX4_begin cX4_begin 3 none 1 := ⟨(AWi 605 (by decide +kernel) rfl), (AWi 59 (by decide +kernel) rfl), by decide +kernel, by decide +kernel, by decide +kernel⟩
set_option maxRecDepth 100000 in
theorem tm_X4_allow : XMI yX4_allow cX4_allow 3 none 2 := ⟨(AWi 610 (by decide +kernel) rfl), (AWi 59 (by decide +kernel) rfl), by decide +kernel, by decide +kernel, by decide +kernel⟩
set_option maxRecDepth 100000 in
theorem tm_X4_reward : XMI yX4_reward cX4_reward 3 none 2 := ⟨(AWi 614 (by decide +kernel) rfl), (AWi 59 (by decide +kernel) rfl), by decide +kernel, by decide +kernel, by decide +kernel⟩
set_option maxRecDepth 100000 in
theorem tm_X4_find : XMI yX4_find cX4_find 1 none 0 := ⟨(AWi 618 (by decide +kernel) rfl), (AWi 59 (by decide +kernel) rfl), by decide +kernel, by decide +kernel, by decide +kernel⟩
set_option maxRecDepth 100000 in
theorem tm_X4_choose : XMI yX4_choose cX4_choose 7 none 5 := ⟨(AWi 621 (by decide +kernel) rfl), (AWi 59 (by decide +kernel) rfl), by decide +kernel, by decide +kernel, by decide +kernel⟩
set_option maxRecDepth 100000 in
theorem tm_X4_keepIfBetter : XMI yX4_keepIfBetter cX4_keepIfBetter 4 none 2 := ⟨(AWi 625 (by decide +kernel) rfl), (AWi 59 (by decide +kernel) rfl), by decide +kernel, by decide +kernel, by decide +kernel⟩
set_option maxRecDepth 100000 in
theorem tm_X11_toldOfMatch : XMI yX11_toldOfMatch cX11_toldOfMatch 2 (some FieldType.int) 1 := ⟨(AWi 629 (by decide +kernel) rfl), (AWi 54 (by decide +kernel) rfl), by decide +kernel, by decide +kernel, by decide +kernel⟩
set_option maxRecDepth 100000 in
theorem tm_X4_bestOn : XMI yX4_bestOn cX4_bestOn 2 (some FieldType.int) 1 := ⟨(AWi 633 (by decide +kernel) rfl), (AWi 59 (by decide +kernel) rfl), by decide +kernel, by decide +kernel, by decide +kernel⟩
set_option maxRecDepth 100000 in
theorem tm_X11_stitches : XMI yX11_stitches cX11_stitches 1 (some FieldType.int) 0 := ⟨(AWi 637 (by decide +kernel) rfl), (AWi 54 (by decide +kernel) rfl), by decide +kernel, by decide +kernel, by decide +kernel⟩
set_option maxRecDepth 100000 in
theorem tm_X11_fewestStitches : XMI yX11_fewestStitches cX11_fewestStitches 7 (some FieldType.int) 3 := ⟨(AWi 640 (by decide +kernel) rfl), (AWi 54 (by decide +kernel) rfl), by decide +kernel, by decide +kernel, by decide +kernel⟩
set_option maxRecDepth 100000 in
theorem tm_X11_stitchesFor : XMI yX11_stitchesFor cX11_stitchesFor 5 (some FieldType.int) 2 := ⟨(AWi 644 (by decide +kernel) rfl), (AWi 54 (by decide +kernel) rfl), by decide +kernel, by decide +kernel, by decide +kernel⟩
set_option maxRecDepth 100000 in
theorem tm_X11_tried : XMI yX11_tried cX11_tried 5 (some FieldType.int) 3 := ⟨(AWi 648 (by decide +kernel) rfl), (AWi 54 (by decide +kernel) rfl), by decide +kernel, by decide +kernel, by decide +kernel⟩
set_option maxRecDepth 100000 in
theorem tm_X10_isFull : XMI yX10_isFull cX10_isFull 1 (some FieldType.boolean) 0 := ⟨(AWi 652 (by decide +kernel) rfl), (AWi 58 (by decide +kernel) rfl), by decide +kernel, by decide +kernel, by decide +kernel⟩
set_option maxRecDepth 100000 in
theorem tm_X10_add : XMI yX10_add cX10_add 5 none 4 := ⟨(AWi 656 (by decide +kernel) rfl), (AWi 58 (by decide +kernel) rfl), by decide +kernel, by decide +kernel, by decide +kernel⟩
set_option maxRecDepth 100000 in
theorem tm_X10_many : XMI yX10_many cX10_many 1 (some FieldType.int) 0 := ⟨(AWi 660 (by decide +kernel) rfl), (AWi 58 (by decide +kernel) rfl), by decide +kernel, by decide +kernel, by decide +kernel⟩
set_option maxRecDepth 100000 in
theorem tm_X11_forget : XMI yX11_forget cX11_forget 2 (some FieldType.int) 0 := ⟨(AWi 664 (by decide +kernel) rfl), (AWi 54 (by decide +kernel) rfl), by decide +kernel, by decide +kernel, by decide +kernel⟩
set_option maxRecDepth 100000 in
theorem tm_X11_weeks : XMI yX11_weeks cX11_weeks 7 (some FieldType.int) 3 := ⟨(AWi 669 (by decide +kernel) rfl), (AWi 54 (by decide +kernel) rfl), by decide +kernel, by decide +kernel, by decide +kernel⟩
set_option maxRecDepth 100000 in
theorem tm_X7_copyFrom : XMI yX7_copyFrom cX7_copyFrom 3 none 1 := ⟨(AWi 673 (by decide +kernel) rfl), (AWi 57 (by decide +kernel) rfl), by decide +kernel, by decide +kernel, by decide +kernel⟩
set_option maxRecDepth 100000 in
theorem tm_X10_copyFrom : XMI yX10_copyFrom cX10_copyFrom 3 none 1 := ⟨(AWi 679 (by decide +kernel) rfl), (AWi 58 (by decide +kernel) rfl), by decide +kernel, by decide +kernel, by decide +kernel⟩
set_option maxRecDepth 100000 in
theorem tm_X11_seedAfter : XMI yX11_seedAfter cX11_seedAfter 1 (some FieldType.int) 1 := ⟨(AWi 684 (by decide +kernel) rfl), (AWi 54 (by decide +kernel) rfl), by decide +kernel, by decide +kernel, by decide +kernel⟩
set_option maxRecDepth 100000 in
theorem tm_X11_drawn : XMI yX11_drawn cX11_drawn 2 (some FieldType.int) 2 := ⟨(AWi 690 (by decide +kernel) rfl), (AWi 54 (by decide +kernel) rfl), by decide +kernel, by decide +kernel, by decide +kernel⟩
set_option maxRecDepth 100000 in
theorem tm_X11_comesFor : XMI yX11_comesFor cX11_comesFor 3 none 2 := ⟨(AWi 695 (by decide +kernel) rfl), (AWi 54 (by decide +kernel) rfl), by decide +kernel, by decide +kernel, by decide +kernel⟩
set_option maxRecDepth 100000 in
theorem tm_X7_hanging : XMI yX7_hanging cX7_hanging 3 (some FieldType.int) 0 := ⟨(AWi 699 (by decide +kernel) rfl), (AWi 57 (by decide +kernel) rfl), by decide +kernel, by decide +kernel, by decide +kernel⟩
set_option maxRecDepth 100000 in
theorem tm_X11_paidInAll : XMI yX11_paidInAll cX11_paidInAll 4 (some FieldType.int) 1 := ⟨(AWi 703 (by decide +kernel) rfl), (AWi 54 (by decide +kernel) rfl), by decide +kernel, by decide +kernel, by decide +kernel⟩
set_option maxRecDepth 100000 in
theorem tm_X11_image : XMI yX11_image cX11_image 1 (some FieldType.int) 0 := ⟨(AWi 707 (by decide +kernel) rfl), (AWi 54 (by decide +kernel) rfl), by decide +kernel, by decide +kernel, by decide +kernel⟩
set_option maxRecDepth 100000 in
theorem tm_X11_restore : XMI yX11_restore cX11_restore 1 (some FieldType.int) 0 := ⟨(AWi 711 (by decide +kernel) rfl), (AWi 54 (by decide +kernel) rfl), by decide +kernel, by decide +kernel, by decide +kernel⟩
set_option maxRecDepth 100000 in
theorem tm_X11_count : XMI yX11_count cX11_count 2 (some FieldType.int) 1 := ⟨(AWi 715 (by decide +kernel) rfl), (AWi 54 (by decide +kernel) rfl), by decide +kernel, by decide +kernel, by decide +kernel⟩
set_option maxRecDepth 100000 in
theorem tm_X11_digest : XMI yX11_digest cX11_digest 5 (some FieldType.long) 0 := ⟨(AWi 719 (by decide +kernel) rfl), (AWi 54 (by decide +kernel) rfl), by decide +kernel, by decide +kernel, by decide +kernel⟩
set_option maxRecDepth 100000 in
theorem tm_X11_withMatch : XMI yX11_withMatch cX11_withMatch 6 (some FieldType.long) 1 := ⟨(AWi 727 (by decide +kernel) rfl), (AWi 54 (by decide +kernel) rfl), by decide +kernel, by decide +kernel, by decide +kernel⟩
set_option maxRecDepth 100000 in
theorem tm_X12_init : XMI yX12_init cX12_init 1 none 0 := ⟨(AWi 734 (by decide +kernel) rfl), (AWi 60 (by decide +kernel) rfl), by decide +kernel, by decide +kernel, by decide +kernel⟩
set_option maxRecDepth 100000 in
theorem tm_X12_letter : XMI yX12_letter cX12_letter 2 (some FieldType.int) 1 := ⟨(AWi 861 (by decide +kernel) rfl), (AWi 60 (by decide +kernel) rfl), by decide +kernel, by decide +kernel, by decide +kernel⟩
set_option maxRecDepth 100000 in
theorem tm_X12_within : XMI yX12_within cX12_within 3 (some FieldType.boolean) 3 := ⟨(AWi 864 (by decide +kernel) rfl), (AWi 60 (by decide +kernel) rfl), by decide +kernel, by decide +kernel, by decide +kernel⟩
set_option maxRecDepth 100000 in
theorem tm_X12_blank : XMI yX12_blank cX12_blank 2 (some FieldType.int) 0 := ⟨(AWi 868 (by decide +kernel) rfl), (AWi 60 (by decide +kernel) rfl), by decide +kernel, by decide +kernel, by decide +kernel⟩
set_option maxRecDepth 100000 in
theorem tm_X12_fault : XMI yX12_fault cX12_fault 1 (some FieldType.int) 0 := ⟨(AWi 872 (by decide +kernel) rfl), (AWi 60 (by decide +kernel) rfl), by decide +kernel, by decide +kernel, by decide +kernel⟩
set_option maxRecDepth 100000 in
theorem tm_X12_read : XMI yX12_read cX12_read 3 (some FieldType.int) 0 := ⟨(AWi 876 (by decide +kernel) rfl), (AWi 60 (by decide +kernel) rfl), by decide +kernel, by decide +kernel, by decide +kernel⟩
set_option maxRecDepth 100000 in
theorem tm_X12_readOne : XMI yX12_readOne cX12_readOne 2 (some FieldType.int) 1 := ⟨(AWi 880 (by decide +kernel) rfl), (AWi 60 (by decide +kernel) rfl), by decide +kernel, by decide +kernel, by decide +kernel⟩
set_option maxRecDepth 100000 in
theorem tm_X12_kindBy : XMI yX12_kindBy cX12_kindBy 1 (some FieldType.int) 1 := ⟨(AWi 883 (by decide +kernel) rfl), (AWi 60 (by decide +kernel) rfl), by decide +kernel, by decide +kernel, by decide +kernel⟩
set_option maxRecDepth 100000 in
theorem tm_X12_isFigure : XMI yX12_isFigure cX12_isFigure 4 (some FieldType.boolean) 3 := ⟨(AWi 887 (by decide +kernel) rfl), (AWi 60 (by decide +kernel) rfl), by decide +kernel, by decide +kernel, by decide +kernel⟩
set_option maxRecDepth 100000 in
theorem tm_X12_readCrimes : XMI yX12_readCrimes cX12_readCrimes 3 (some FieldType.int) 1 := ⟨(AWi 891 (by decide +kernel) rfl), (AWi 60 (by decide +kernel) rfl), by decide +kernel, by decide +kernel, by decide +kernel⟩
set_option maxRecDepth 100000 in
theorem tm_X12_station : XMI yX12_station cX12_station 4 (some FieldType.int) 0 := ⟨(AWi 895 (by decide +kernel) rfl), (AWi 60 (by decide +kernel) rfl), by decide +kernel, by decide +kernel, by decide +kernel⟩
set_option maxRecDepth 100000 in
theorem tm_X12_about : XMI yX12_about cX12_about 3 (some FieldType.int) 2 := ⟨(AWi 899 (by decide +kernel) rfl), (AWi 60 (by decide +kernel) rfl), by decide +kernel, by decide +kernel, by decide +kernel⟩
set_option maxRecDepth 100000 in
theorem tm_X12_isOne : XMI yX12_isOne cX12_isOne 2 (some FieldType.boolean) 1 := ⟨(AWi 903 (by decide +kernel) rfl), (AWi 60 (by decide +kernel) rfl), by decide +kernel, by decide +kernel, by decide +kernel⟩
set_option maxRecDepth 100000 in
theorem tm_X12_oneNow : XMI yX12_oneNow cX12_oneNow 3 (some FieldType.int) 2 := ⟨(AWi 907 (by decide +kernel) rfl), (AWi 60 (by decide +kernel) rfl), by decide +kernel, by decide +kernel, by decide +kernel⟩
set_option maxRecDepth 100000 in
theorem tm_X12_bears : XMI yX12_bears cX12_bears 2 (some FieldType.int) 1 := ⟨(AWi 911 (by decide +kernel) rfl), (AWi 60 (by decide +kernel) rfl), by decide +kernel, by decide +kernel, by decide +kernel⟩
set_option maxRecDepth 100000 in
theorem tm_X12_paid : XMI yX12_paid cX12_paid 2 (some FieldType.int) 1 := ⟨(AWi 915 (by decide +kernel) rfl), (AWi 60 (by decide +kernel) rfl), by decide +kernel, by decide +kernel, by decide +kernel⟩
set_option maxRecDepth 100000 in
theorem tm_X12_fitting : XMI yX12_fitting cX12_fitting 4 (some FieldType.int) 1 := ⟨(AWi 919 (by decide +kernel) rfl), (AWi 60 (by decide +kernel) rfl), by decide +kernel, by decide +kernel, by decide +kernel⟩
set_option maxRecDepth 100000 in
theorem tm_X12_fits : XMI yX12_fits cX12_fits 3 (some FieldType.boolean) 2 := ⟨(AWi 923 (by decide +kernel) rfl), (AWi 60 (by decide +kernel) rfl), by decide +kernel, by decide +kernel, by decide +kernel⟩
set_option maxRecDepth 100000 in
theorem tm_X12_fitsBy : XMI yX12_fitsBy cX12_fitsBy 6 (some FieldType.boolean) 4 := ⟨(AWi 927 (by decide +kernel) rfl), (AWi 60 (by decide +kernel) rfl), by decide +kernel, by decide +kernel, by decide +kernel⟩
set_option maxRecDepth 100000 in
theorem tm_X12_counts : XMI yX12_counts cX12_counts 3 (some FieldType.int) 2 := ⟨(AWi 931 (by decide +kernel) rfl), (AWi 60 (by decide +kernel) rfl), by decide +kernel, by decide +kernel, by decide +kernel⟩
set_option maxRecDepth 100000 in
theorem tm_X12_isHand : XMI yX12_isHand cX12_isHand 3 (some FieldType.boolean) 2 := ⟨(AWi 935 (by decide +kernel) rfl), (AWi 60 (by decide +kernel) rfl), by decide +kernel, by decide +kernel, by decide +kernel⟩
set_option maxRecDepth 100000 in
theorem tm_X12_howLarge : XMI yX12_howLarge cX12_howLarge 4 (some FieldType.int) 1 := ⟨(AWi 939 (by decide +kernel) rfl), (AWi 60 (by decide +kernel) rfl), by decide +kernel, by decide +kernel, by decide +kernel⟩
set_option maxRecDepth 100000 in
theorem tm_X12_couldBe : XMI yX12_couldBe cX12_couldBe 5 (some FieldType.boolean) 2 := ⟨(AWi 943 (by decide +kernel) rfl), (AWi 60 (by decide +kernel) rfl), by decide +kernel, by decide +kernel, by decide +kernel⟩
set_option maxRecDepth 100000 in
theorem tm_X12_nextOf : XMI yX12_nextOf cX12_nextOf 9 (some FieldType.int) 1 := ⟨(AWi 947 (by decide +kernel) rfl), (AWi 60 (by decide +kernel) rfl), by decide +kernel, by decide +kernel, by decide +kernel⟩
set_option maxRecDepth 100000 in
theorem tm_X12_isIn : XMI yX12_isIn cX12_isIn 2 (some FieldType.boolean) 2 := ⟨(AWi 951 (by decide +kernel) rfl), (AWi 60 (by decide +kernel) rfl), by decide +kernel, by decide +kernel, by decide +kernel⟩
set_option maxRecDepth 100000 in
theorem tm_X12_as : XMI yX12_as cX12_as 4 (some FieldType.int) 2 := ⟨(AWi 955 (by decide +kernel) rfl), (AWi 60 (by decide +kernel) rfl), by decide +kernel, by decide +kernel, by decide +kernel⟩
set_option maxRecDepth 100000 in
theorem tm_X12_crime : XMI yX12_crime cX12_crime 3 (some FieldType.int) 2 := ⟨(AWi 959 (by decide +kernel) rfl), (AWi 60 (by decide +kernel) rfl), by decide +kernel, by decide +kernel, by decide +kernel⟩
set_option maxRecDepth 100000 in
theorem tm_X12_isCrime : XMI yX12_isCrime cX12_isCrime 2 (some FieldType.boolean) 1 := ⟨(AWi 963 (by decide +kernel) rfl), (AWi 60 (by decide +kernel) rfl), by decide +kernel, by decide +kernel, by decide +kernel⟩
set_option maxRecDepth 100000 in
theorem tm_X12_crimeNow : XMI yX12_crimeNow cX12_crimeNow 3 (some FieldType.int) 2 := ⟨(AWi 967 (by decide +kernel) rfl), (AWi 60 (by decide +kernel) rfl), by decide +kernel, by decide +kernel, by decide +kernel⟩
set_option maxRecDepth 100000 in
theorem tm_X12_hangsOn : XMI yX12_hangsOn cX12_hangsOn 4 (some FieldType.int) 1 := ⟨(AWi 971 (by decide +kernel) rfl), (AWi 60 (by decide +kernel) rfl), by decide +kernel, by decide +kernel, by decide +kernel⟩
set_option maxRecDepth 100000 in
theorem tm_X12_fitted : XMI yX12_fitted cX12_fitted 4 (some FieldType.int) 1 := ⟨(AWi 975 (by decide +kernel) rfl), (AWi 60 (by decide +kernel) rfl), by decide +kernel, by decide +kernel, by decide +kernel⟩
set_option maxRecDepth 100000 in
theorem tm_X12_halvesOf : XMI yX12_halvesOf cX12_halvesOf 7 (some FieldType.int) 1 := ⟨(AWi 979 (by decide +kernel) rfl), (AWi 60 (by decide +kernel) rfl), by decide +kernel, by decide +kernel, by decide +kernel⟩
set_option maxRecDepth 100000 in
theorem tm_X12_confess : XMI yX12_confess cX12_confess 3 (some FieldType.int) 2 := ⟨(AWi 983 (by decide +kernel) rfl), (AWi 60 (by decide +kernel) rfl), by decide +kernel, by decide +kernel, by decide +kernel⟩
set_option maxRecDepth 100000 in
theorem tm_X12_isFree : XMI yX12_isFree cX12_isFree 2 (some FieldType.boolean) 1 := ⟨(AWi 987 (by decide +kernel) rfl), (AWi 60 (by decide +kernel) rfl), by decide +kernel, by decide +kernel, by decide +kernel⟩
set_option maxRecDepth 100000 in
theorem tm_X12_recant : XMI yX12_recant cX12_recant 3 (some FieldType.int) 1 := ⟨(AWi 991 (by decide +kernel) rfl), (AWi 60 (by decide +kernel) rfl), by decide +kernel, by decide +kernel, by decide +kernel⟩
set_option maxRecDepth 100000 in
theorem tm_X12_alter : XMI yX12_alter cX12_alter 4 (some FieldType.int) 2 := ⟨(AWi 995 (by decide +kernel) rfl), (AWi 60 (by decide +kernel) rfl), by decide +kernel, by decide +kernel, by decide +kernel⟩
set_option maxRecDepth 100000 in
theorem tm_X12_match : XMI yX12_match cX12_match 2 (some FieldType.int) 1 := ⟨(AWi 999 (by decide +kernel) rfl), (AWi 60 (by decide +kernel) rfl), by decide +kernel, by decide +kernel, by decide +kernel⟩
set_option maxRecDepth 100000 in
theorem tm_X12_matchNow : XMI yX12_matchNow cX12_matchNow 7 (some FieldType.int) 1 := ⟨(AWi 1003 (by decide +kernel) rfl), (AWi 60 (by decide +kernel) rfl), by decide +kernel, by decide +kernel, by decide +kernel⟩
set_option maxRecDepth 100000 in
theorem tm_X12_codes : XMI yX12_codes cX12_codes 3 (some FieldType.int) 0 := ⟨(AWi 1007 (by decide +kernel) rfl), (AWi 60 (by decide +kernel) rfl), by decide +kernel, by decide +kernel, by decide +kernel⟩
set_option maxRecDepth 100000 in
theorem tm_X12_isMatch : XMI yX12_isMatch cX12_isMatch 6 (some FieldType.boolean) 1 := ⟨(AWi 1011 (by decide +kernel) rfl), (AWi 60 (by decide +kernel) rfl), by decide +kernel, by decide +kernel, by decide +kernel⟩
set_option maxRecDepth 100000 in
theorem tm_X12_hasBy : XMI yX12_hasBy cX12_hasBy 5 (some FieldType.int) 2 := ⟨(AWi 1015 (by decide +kernel) rfl), (AWi 60 (by decide +kernel) rfl), by decide +kernel, by decide +kernel, by decide +kernel⟩
set_option maxRecDepth 100000 in
theorem tm_X12_stitches : XMI yX12_stitches cX12_stitches 1 (some FieldType.int) 0 := ⟨(AWi 1019 (by decide +kernel) rfl), (AWi 60 (by decide +kernel) rfl), by decide +kernel, by decide +kernel, by decide +kernel⟩
set_option maxRecDepth 100000 in
theorem tm_X12_stitchesNow : XMI yX12_stitchesNow cX12_stitchesNow 6 (some FieldType.int) 0 := ⟨(AWi 1023 (by decide +kernel) rfl), (AWi 60 (by decide +kernel) rfl), by decide +kernel, by decide +kernel, by decide +kernel⟩
set_option maxRecDepth 100000 in
theorem tm_X12_freeCrimes : XMI yX12_freeCrimes cX12_freeCrimes 3 (some FieldType.int) 0 := ⟨(AWi 1027 (by decide +kernel) rfl), (AWi 60 (by decide +kernel) rfl), by decide +kernel, by decide +kernel, by decide +kernel⟩
set_option maxRecDepth 100000 in
theorem tm_X12_alterBy : XMI yX12_alterBy cX12_alterBy 7 (some FieldType.int) 1 := ⟨(AWi 1031 (by decide +kernel) rfl), (AWi 60 (by decide +kernel) rfl), by decide +kernel, by decide +kernel, by decide +kernel⟩
set_option maxRecDepth 100000 in
theorem tm_X12_tried : XMI yX12_tried cX12_tried 4 (some FieldType.int) 3 := ⟨(AWi 1035 (by decide +kernel) rfl), (AWi 60 (by decide +kernel) rfl), by decide +kernel, by decide +kernel, by decide +kernel⟩
set_option maxRecDepth 100000 in
theorem tm_X12_forget : XMI yX12_forget cX12_forget 2 (some FieldType.int) 0 := ⟨(AWi 1039 (by decide +kernel) rfl), (AWi 60 (by decide +kernel) rfl), by decide +kernel, by decide +kernel, by decide +kernel⟩
set_option maxRecDepth 100000 in
theorem tm_X12_weeks : XMI yX12_weeks cX12_weeks 4 (some FieldType.int) 3 := ⟨(AWi 1043 (by decide +kernel) rfl), (AWi 60 (by decide +kernel) rfl), by decide +kernel, by decide +kernel, by decide +kernel⟩
set_option maxRecDepth 100000 in
theorem tm_X12_weeksNow : XMI yX12_weeksNow cX12_weeksNow 7 (some FieldType.int) 3 := ⟨(AWi 1047 (by decide +kernel) rfl), (AWi 60 (by decide +kernel) rfl), by decide +kernel, by decide +kernel, by decide +kernel⟩
set_option maxRecDepth 100000 in
theorem tm_X12_draw : XMI yX12_draw cX12_draw 2 (some FieldType.int) 1 := ⟨(AWi 1051 (by decide +kernel) rfl), (AWi 60 (by decide +kernel) rfl), by decide +kernel, by decide +kernel, by decide +kernel⟩
set_option maxRecDepth 100000 in
theorem tm_X12_paidAll : XMI yX12_paidAll cX12_paidAll 3 (some FieldType.int) 0 := ⟨(AWi 1059 (by decide +kernel) rfl), (AWi 60 (by decide +kernel) rfl), by decide +kernel, by decide +kernel, by decide +kernel⟩
set_option maxRecDepth 100000 in
theorem tm_X12_image : XMI yX12_image cX12_image 2 (some FieldType.int) 0 := ⟨(AWi 1063 (by decide +kernel) rfl), (AWi 60 (by decide +kernel) rfl), by decide +kernel, by decide +kernel, by decide +kernel⟩
set_option maxRecDepth 100000 in
theorem tm_X12_restore : XMI yX12_restore cX12_restore 2 (some FieldType.int) 0 := ⟨(AWi 1067 (by decide +kernel) rfl), (AWi 60 (by decide +kernel) rfl), by decide +kernel, by decide +kernel, by decide +kernel⟩
set_option maxRecDepth 100000 in
theorem tm_X12_count : XMI yX12_count cX12_count 2 (some FieldType.int) 1 := ⟨(AWi 1071 (by decide +kernel) rfl), (AWi 60 (by decide +kernel) rfl), by decide +kernel, by decide +kernel, by decide +kernel⟩
set_option maxRecDepth 100000 in
theorem tm_X12_howMany : XMI yX12_howMany cX12_howMany 2 (some FieldType.int) 1 := ⟨(AWi 1075 (by decide +kernel) rfl), (AWi 60 (by decide +kernel) rfl), by decide +kernel, by decide +kernel, by decide +kernel⟩
set_option maxRecDepth 100000 in
theorem tm_X12_digest : XMI yX12_digest cX12_digest 3 (some FieldType.long) 0 := ⟨(AWi 1079 (by decide +kernel) rfl), (AWi 60 (by decide +kernel) rfl), by decide +kernel, by decide +kernel, by decide +kernel⟩
set_option maxRecDepth 100000 in
theorem tm_X12_mix : XMI yX12_mix cX12_mix 3 none 1 := ⟨(AWi 1084 (by decide +kernel) rfl), (AWi 60 (by decide +kernel) rfl), by decide +kernel, by decide +kernel, by decide +kernel⟩
set_option maxRecDepth 100000 in
theorem t_obj : Cond.instanceMethod objectInit ∈ AW ∧ Cond.code objectInit ⟨#[0xb1]⟩ 1 none ∈ AW := ⟨(AWi 75 (by decide +kernel) rfl), (AWi 76 (by decide +kernel) rfl)⟩
set_option maxRecDepth 100000 in
theorem tc_L_9 : XCi RL 9 yX11_init := ⟨rfl, (AWi 72 (by decide +kernel) rfl), Or.inl (AWi 71 (by decide +kernel) rfl)⟩
set_option maxRecDepth 100000 in
theorem tc_L_12 : XCi RL 12 yX12_init := ⟨rfl, (AWi 733 (by decide +kernel) rfl), Or.inl (AWi 732 (by decide +kernel) rfl)⟩
set_option maxRecDepth 100000 in
theorem tc_L_13_11 : XCv RL 13 11 yX11_letter := ⟨RX11, TX11, 9, rfl, (AWi 221 (by decide +kernel) rfl), Or.inl ⟨rfl, (AWi 220 (by decide +kernel) rfl), (AWi 222 (by decide +kernel) rfl)⟩⟩
set_option maxRecDepth 100000 in
theorem tc_L_17_12 : XCv RL 17 12 yX12_letter := ⟨RX12, TX12, 40, rfl, (AWi 859 (by decide +kernel) rfl), Or.inl ⟨rfl, (AWi 858 (by decide +kernel) rfl), (AWi 860 (by decide +kernel) rfl)⟩⟩
set_option maxRecDepth 100000 in
theorem tc_L_18_11 : XCv RL 18 11 yX11_blank := ⟨RX11, TX11, 9, rfl, (AWi 237 (by decide +kernel) rfl), Or.inl ⟨rfl, (AWi 236 (by decide +kernel) rfl), (AWi 238 (by decide +kernel) rfl)⟩⟩
set_option maxRecDepth 100000 in
theorem tc_L_22_12 : XCv RL 22 12 yX12_blank := ⟨RX12, TX12, 40, rfl, (AWi 866 (by decide +kernel) rfl), Or.inl ⟨rfl, (AWi 865 (by decide +kernel) rfl), (AWi 867 (by decide +kernel) rfl)⟩⟩
set_option maxRecDepth 100000 in
theorem tc_L_23_11 : XCv RL 23 11 yX11_fault := ⟨RX11, TX11, 9, rfl, (AWi 245 (by decide +kernel) rfl), Or.inl ⟨rfl, (AWi 244 (by decide +kernel) rfl), (AWi 246 (by decide +kernel) rfl)⟩⟩
set_option maxRecDepth 100000 in
theorem tc_L_26_12 : XCv RL 26 12 yX12_fault := ⟨RX12, TX12, 40, rfl, (AWi 870 (by decide +kernel) rfl), Or.inl ⟨rfl, (AWi 869 (by decide +kernel) rfl), (AWi 871 (by decide +kernel) rfl)⟩⟩
set_option maxRecDepth 100000 in
theorem tc_L_27_11 : XCv RL 27 11 yX11_station := ⟨RX11, TX11, 9, rfl, (AWi 273 (by decide +kernel) rfl), Or.inl ⟨rfl, (AWi 272 (by decide +kernel) rfl), (AWi 274 (by decide +kernel) rfl)⟩⟩
set_option maxRecDepth 100000 in
theorem tc_L_30_12 : XCv RL 30 12 yX12_station := ⟨RX12, TX12, 40, rfl, (AWi 893 (by decide +kernel) rfl), Or.inl ⟨rfl, (AWi 892 (by decide +kernel) rfl), (AWi 894 (by decide +kernel) rfl)⟩⟩
set_option maxRecDepth 100000 in
theorem tc_L_31_11 : XCv RL 31 11 yX11_about := ⟨RX11, TX11, 9, rfl, (AWi 386 (by decide +kernel) rfl), Or.inl ⟨rfl, (AWi 385 (by decide +kernel) rfl), (AWi 387 (by decide +kernel) rfl)⟩⟩
set_option maxRecDepth 100000 in
theorem tc_L_35_12 : XCv RL 35 12 yX12_about := ⟨RX12, TX12, 40, rfl, (AWi 897 (by decide +kernel) rfl), Or.inl ⟨rfl, (AWi 896 (by decide +kernel) rfl), (AWi 898 (by decide +kernel) rfl)⟩⟩
set_option maxRecDepth 100000 in
theorem tc_L_36_11 : XCv RL 36 11 yX11_as := ⟨RX11, TX11, 9, rfl, (AWi 509 (by decide +kernel) rfl), Or.inl ⟨rfl, (AWi 508 (by decide +kernel) rfl), (AWi 510 (by decide +kernel) rfl)⟩⟩
set_option maxRecDepth 100000 in
theorem tc_L_39_12 : XCv RL 39 12 yX12_as := ⟨RX12, TX12, 40, rfl, (AWi 953 (by decide +kernel) rfl), Or.inl ⟨rfl, (AWi 952 (by decide +kernel) rfl), (AWi 954 (by decide +kernel) rfl)⟩⟩
set_option maxRecDepth 100000 in
theorem tc_L_40_11 : XCv RL 40 11 yX11_crime := ⟨RX11, TX11, 9, rfl, (AWi 520 (by decide +kernel) rfl), Or.inl ⟨rfl, (AWi 519 (by decide +kernel) rfl), (AWi 521 (by decide +kernel) rfl)⟩⟩
set_option maxRecDepth 100000 in
theorem tc_L_43_12 : XCv RL 43 12 yX12_crime := ⟨RX12, TX12, 40, rfl, (AWi 957 (by decide +kernel) rfl), Or.inl ⟨rfl, (AWi 956 (by decide +kernel) rfl), (AWi 958 (by decide +kernel) rfl)⟩⟩
set_option maxRecDepth 100000 in
theorem tc_L_44_11 : XCv RL 44 11 yX11_confess := ⟨RX11, TX11, 9, rfl, (AWi 546 (by decide +kernel) rfl), Or.inl ⟨rfl, (AWi 545 (by decide +kernel) rfl), (AWi 547 (by decide +kernel) rfl)⟩⟩
set_option maxRecDepth 100000 in
theorem tc_L_47_12 : XCv RL 47 12 yX12_confess := ⟨RX12, TX12, 40, rfl, (AWi 981 (by decide +kernel) rfl), Or.inl ⟨rfl, (AWi 980 (by decide +kernel) rfl), (AWi 982 (by decide +kernel) rfl)⟩⟩
set_option maxRecDepth 100000 in
theorem tc_L_48_11 : XCv RL 48 11 yX11_recant := ⟨RX11, TX11, 9, rfl, (AWi 573 (by decide +kernel) rfl), Or.inl ⟨rfl, (AWi 572 (by decide +kernel) rfl), (AWi 574 (by decide +kernel) rfl)⟩⟩
set_option maxRecDepth 100000 in
theorem tc_L_51_12 : XCv RL 51 12 yX12_recant := ⟨RX12, TX12, 40, rfl, (AWi 989 (by decide +kernel) rfl), Or.inl ⟨rfl, (AWi 988 (by decide +kernel) rfl), (AWi 990 (by decide +kernel) rfl)⟩⟩
set_option maxRecDepth 100000 in
theorem tc_L_52_11 : XCv RL 52 11 yX11_alter := ⟨RX11, TX11, 9, rfl, (AWi 577 (by decide +kernel) rfl), Or.inl ⟨rfl, (AWi 576 (by decide +kernel) rfl), (AWi 578 (by decide +kernel) rfl)⟩⟩
set_option maxRecDepth 100000 in
theorem tc_L_56_12 : XCv RL 56 12 yX12_alter := ⟨RX12, TX12, 40, rfl, (AWi 993 (by decide +kernel) rfl), Or.inl ⟨rfl, (AWi 992 (by decide +kernel) rfl), (AWi 994 (by decide +kernel) rfl)⟩⟩
set_option maxRecDepth 100000 in
theorem tc_L_57_11 : XCv RL 57 11 yX11_match := ⟨RX11, TX11, 9, rfl, (AWi 588 (by decide +kernel) rfl), Or.inl ⟨rfl, (AWi 587 (by decide +kernel) rfl), (AWi 589 (by decide +kernel) rfl)⟩⟩
set_option maxRecDepth 100000 in
theorem tc_L_60_12 : XCv RL 60 12 yX12_match := ⟨RX12, TX12, 40, rfl, (AWi 997 (by decide +kernel) rfl), Or.inl ⟨rfl, (AWi 996 (by decide +kernel) rfl), (AWi 998 (by decide +kernel) rfl)⟩⟩
set_option maxRecDepth 100000 in
theorem tc_L_61_11 : XCv RL 61 11 yX11_stitches := ⟨RX11, TX11, 9, rfl, (AWi 635 (by decide +kernel) rfl), Or.inl ⟨rfl, (AWi 634 (by decide +kernel) rfl), (AWi 636 (by decide +kernel) rfl)⟩⟩
set_option maxRecDepth 100000 in
theorem tc_L_64_12 : XCv RL 64 12 yX12_stitches := ⟨RX12, TX12, 40, rfl, (AWi 1017 (by decide +kernel) rfl), Or.inl ⟨rfl, (AWi 1016 (by decide +kernel) rfl), (AWi 1018 (by decide +kernel) rfl)⟩⟩
set_option maxRecDepth 100000 in
theorem tc_L_65_11 : XCv RL 65 11 yX11_tried := ⟨RX11, TX11, 9, rfl, (AWi 646 (by decide +kernel) rfl), Or.inl ⟨rfl, (AWi 645 (by decide +kernel) rfl), (AWi 647 (by decide +kernel) rfl)⟩⟩
set_option maxRecDepth 100000 in
theorem tc_L_69_12 : XCv RL 69 12 yX12_tried := ⟨RX12, TX12, 40, rfl, (AWi 1033 (by decide +kernel) rfl), Or.inl ⟨rfl, (AWi 1032 (by decide +kernel) rfl), (AWi 1034 (by decide +kernel) rfl)⟩⟩
set_option maxRecDepth 100000 in
theorem tc_L_70_11 : XCv RL 70 11 yX11_forget := ⟨RX11, TX11, 9, rfl, (AWi 662 (by decide +kernel) rfl), Or.inl ⟨rfl, (AWi 661 (by decide +kernel) rfl), (AWi 663 (by decide +kernel) rfl)⟩⟩
set_option maxRecDepth 100000 in
theorem tc_L_73_12 : XCv RL 73 12 yX12_forget := ⟨RX12, TX12, 40, rfl, (AWi 1037 (by decide +kernel) rfl), Or.inl ⟨rfl, (AWi 1036 (by decide +kernel) rfl), (AWi 1038 (by decide +kernel) rfl)⟩⟩
set_option maxRecDepth 100000 in
theorem tc_L_74_11 : XCv RL 74 11 yX11_weeks := ⟨RX11, TX11, 9, rfl, (AWi 667 (by decide +kernel) rfl), Or.inl ⟨rfl, (AWi 666 (by decide +kernel) rfl), (AWi 668 (by decide +kernel) rfl)⟩⟩
set_option maxRecDepth 100000 in
theorem tc_L_78_12 : XCv RL 78 12 yX12_weeks := ⟨RX12, TX12, 40, rfl, (AWi 1041 (by decide +kernel) rfl), Or.inl ⟨rfl, (AWi 1040 (by decide +kernel) rfl), (AWi 1042 (by decide +kernel) rfl)⟩⟩
set_option maxRecDepth 100000 in
theorem tc_L_79_11 : XCv RL 79 11 yX11_image := ⟨RX11, TX11, 9, rfl, (AWi 705 (by decide +kernel) rfl), Or.inl ⟨rfl, (AWi 704 (by decide +kernel) rfl), (AWi 706 (by decide +kernel) rfl)⟩⟩
set_option maxRecDepth 100000 in
theorem tc_L_82_12 : XCv RL 82 12 yX12_image := ⟨RX12, TX12, 40, rfl, (AWi 1061 (by decide +kernel) rfl), Or.inl ⟨rfl, (AWi 1060 (by decide +kernel) rfl), (AWi 1062 (by decide +kernel) rfl)⟩⟩
set_option maxRecDepth 100000 in
theorem tc_L_83_11 : XCv RL 83 11 yX11_restore := ⟨RX11, TX11, 9, rfl, (AWi 709 (by decide +kernel) rfl), Or.inl ⟨rfl, (AWi 708 (by decide +kernel) rfl), (AWi 710 (by decide +kernel) rfl)⟩⟩
set_option maxRecDepth 100000 in
theorem tc_L_86_12 : XCv RL 86 12 yX12_restore := ⟨RX12, TX12, 40, rfl, (AWi 1065 (by decide +kernel) rfl), Or.inl ⟨rfl, (AWi 1064 (by decide +kernel) rfl), (AWi 1066 (by decide +kernel) rfl)⟩⟩
set_option maxRecDepth 100000 in
theorem tc_L_87_11 : XCv RL 87 11 yX11_count := ⟨RX11, TX11, 9, rfl, (AWi 713 (by decide +kernel) rfl), Or.inl ⟨rfl, (AWi 712 (by decide +kernel) rfl), (AWi 714 (by decide +kernel) rfl)⟩⟩
set_option maxRecDepth 100000 in
theorem tc_L_90_12 : XCv RL 90 12 yX12_count := ⟨RX12, TX12, 40, rfl, (AWi 1069 (by decide +kernel) rfl), Or.inl ⟨rfl, (AWi 1068 (by decide +kernel) rfl), (AWi 1070 (by decide +kernel) rfl)⟩⟩
set_option maxRecDepth 100000 in
theorem tc_L_91_11 : XCv RL 91 11 yX11_digest := ⟨RX11, TX11, 9, rfl, (AWi 717 (by decide +kernel) rfl), Or.inl ⟨rfl, (AWi 716 (by decide +kernel) rfl), (AWi 718 (by decide +kernel) rfl)⟩⟩
set_option maxRecDepth 100000 in
theorem tc_L_95_12 : XCv RL 95 12 yX12_digest := ⟨RX12, TX12, 40, rfl, (AWi 1077 (by decide +kernel) rfl), Or.inl ⟨rfl, (AWi 1076 (by decide +kernel) rfl), (AWi 1078 (by decide +kernel) rfl)⟩⟩
set_option maxRecDepth 100000 in
theorem tc_X0_3 : XCi RX0 3 yX3_init := ⟨rfl, (AWi 303 (by decide +kernel) rfl), Or.inl (AWi 320 (by decide +kernel) rfl)⟩
set_option maxRecDepth 100000 in
theorem tc_X1_1 : Cond.methodLink RX1 1 objectInit ∈ AW ∧ Cond.instanceMethod objectInit ∈ AW ∧ Cond.code objectInit ⟨#[0xb1]⟩ 1 none ∈ AW := ⟨(AWi 355 (by decide +kernel) rfl), t_obj⟩
set_option maxRecDepth 100000 in
theorem tc_X10_3 : Cond.methodLink RX10 3 objectInit ∈ AW ∧ Cond.instanceMethod objectInit ∈ AW ∧ Cond.code objectInit ⟨#[0xb1]⟩ 1 none ∈ AW := ⟨(AWi 125 (by decide +kernel) rfl), t_obj⟩
set_option maxRecDepth 100000 in
theorem tc_X10_29_10 : XCv RX10 29 10 yX10_clear := ⟨RX10, TX10, 5, rfl, (AWi 378 (by decide +kernel) rfl), Or.inl ⟨rfl, (AWi 680 (by decide +kernel) rfl), (AWi 379 (by decide +kernel) rfl)⟩⟩
set_option maxRecDepth 100000 in
theorem tc_X10_32_10 : XCv RX10 32 10 yX10_add := ⟨RX10, TX10, 5, rfl, (AWi 654 (by decide +kernel) rfl), Or.inl ⟨rfl, (AWi 681 (by decide +kernel) rfl), (AWi 655 (by decide +kernel) rfl)⟩⟩
set_option maxRecDepth 100000 in
theorem tc_X10_36_0 : XCv RX10 36 0 yX3_wouldFit := ⟨RX0, TX0, 2, rfl, (AWi 445 (by decide +kernel) rfl), Or.inr (Or.inl ⟨yX3_wouldFit, "ConfessBySize$Man", rfl, (AWi 487 (by decide +kernel) rfl), (AWi 447 (by decide +kernel) rfl), (AWi 448 (by decide +kernel) rfl), by decide +kernel, by decide +kernel, rfl⟩)⟩
set_option maxRecDepth 100000 in
theorem tc_X10_36_2 : XCv RX10 36 2 yX3_wouldFit := ⟨RX2, TX2, 2, rfl, (AWi 445 (by decide +kernel) rfl), Or.inr (Or.inl ⟨yX3_wouldFit, "ConfessBySize$Man", rfl, (AWi 487 (by decide +kernel) rfl), (AWi 447 (by decide +kernel) rfl), (AWi 449 (by decide +kernel) rfl), by decide +kernel, by decide +kernel, rfl⟩)⟩
set_option maxRecDepth 100000 in
theorem tc_X10_36_3 : XCv RX10 36 3 yX3_wouldFit := ⟨RX3, TX3, 2, rfl, (AWi 445 (by decide +kernel) rfl), Or.inl ⟨rfl, (AWi 487 (by decide +kernel) rfl), (AWi 446 (by decide +kernel) rfl)⟩⟩
set_option maxRecDepth 100000 in
theorem tc_X10_36_8 : XCv RX10 36 8 yX3_wouldFit := ⟨RX8, TX8, 2, rfl, (AWi 445 (by decide +kernel) rfl), Or.inr (Or.inl ⟨yX3_wouldFit, "ConfessBySize$Man", rfl, (AWi 487 (by decide +kernel) rfl), (AWi 447 (by decide +kernel) rfl), (AWi 450 (by decide +kernel) rfl), by decide +kernel, by decide +kernel, rfl⟩)⟩
set_option maxRecDepth 100000 in
theorem tc_X10_36_9 : XCv RX10 36 9 yX3_wouldFit := ⟨RX9, TX9, 2, rfl, (AWi 445 (by decide +kernel) rfl), Or.inr (Or.inl ⟨yX3_wouldFit, "ConfessBySize$Man", rfl, (AWi 487 (by decide +kernel) rfl), (AWi 447 (by decide +kernel) rfl), (AWi 451 (by decide +kernel) rfl), by decide +kernel, by decide +kernel, rfl⟩)⟩
set_option maxRecDepth 100000 in
theorem tc_X11_1 : Cond.methodLink RX11 1 objectInit ∈ AW ∧ Cond.instanceMethod objectInit ∈ AW ∧ Cond.code objectInit ⟨#[0xb1]⟩ 1 none ∈ AW := ⟨(AWi 74 (by decide +kernel) rfl), t_obj⟩
set_option maxRecDepth 100000 in
theorem tc_X11_9 : XCi RX11 9 yX5_init := ⟨rfl, (AWi 80 (by decide +kernel) rfl), Or.inr ⟨"ConfessBySize", by decide +kernel⟩⟩
set_option maxRecDepth 100000 in
theorem tc_X11_18 : XCi RX11 18 yX6_init := ⟨rfl, (AWi 94 (by decide +kernel) rfl), Or.inr ⟨"ConfessBySize", by decide +kernel⟩⟩
set_option maxRecDepth 100000 in
theorem tc_X11_25 : XCi RX11 25 yX7_init := ⟨rfl, (AWi 117 (by decide +kernel) rfl), Or.inl (AWi 116 (by decide +kernel) rfl)⟩
set_option maxRecDepth 100000 in
theorem tc_X11_38 : XCi RX11 38 yX4_init := ⟨rfl, (AWi 165 (by decide +kernel) rfl), Or.inr ⟨"ConfessBySize", by decide +kernel⟩⟩
set_option maxRecDepth 100000 in
theorem tc_X11_118 : XCs RX11 118 yX11_isOfKind := ⟨(AWi 512 (by decide +kernel) rfl), (AWi 513 (by decide +kernel) rfl)⟩
set_option maxRecDepth 100000 in
theorem tc_X11_155 : XCs RX11 155 yX11_isSize := ⟨(AWi 580 (by decide +kernel) rfl), (AWi 581 (by decide +kernel) rfl)⟩
set_option maxRecDepth 100000 in
theorem tc_X11_165 : XCs RX11 165 yX11_isOfMatch := ⟨(AWi 591 (by decide +kernel) rfl), (AWi 592 (by decide +kernel) rfl)⟩
set_option maxRecDepth 100000 in
theorem tc_X11_180 : XCs RX11 180 yX11_fewestStitches := ⟨(AWi 638 (by decide +kernel) rfl), (AWi 639 (by decide +kernel) rfl)⟩
set_option maxRecDepth 100000 in
theorem tc_X11_202 : XCs RX11 202 yX11_seedAfter := ⟨(AWi 682 (by decide +kernel) rfl), (AWi 683 (by decide +kernel) rfl)⟩
set_option maxRecDepth 100000 in
theorem tc_X11_208 : XCs RX11 208 yX11_drawn := ⟨(AWi 688 (by decide +kernel) rfl), (AWi 689 (by decide +kernel) rfl)⟩
set_option maxRecDepth 100000 in
theorem tc_X11_298 : XCs RX11 298 yX11_bitOfSize := ⟨(AWi 488 (by decide +kernel) rfl), (AWi 489 (by decide +kernel) rfl)⟩
set_option maxRecDepth 100000 in
theorem tc_X11_305 : XCs RX11 305 yJ6_bitCount_0f7a4 := ⟨(AWi 499 (by decide +kernel) rfl), (AWi 500 (by decide +kernel) rfl)⟩
set_option maxRecDepth 100000 in
theorem tc_X11_310 : XCs RX11 310 yJ9_max_7cf53 := ⟨(AWi 505 (by decide +kernel) rfl), (AWi 506 (by decide +kernel) rfl)⟩
set_option maxRecDepth 100000 in
theorem tc_X11_43_5 : XCv RX11 43 5 yX5_isFull := ⟨RX5, TX5, 2, rfl, (AWi 225 (by decide +kernel) rfl), Or.inl ⟨rfl, (AWi 224 (by decide +kernel) rfl), (AWi 226 (by decide +kernel) rfl)⟩⟩
set_option maxRecDepth 100000 in
theorem tc_X11_47_5 : XCv RX11 47 5 yX5_add := ⟨RX5, TX5, 2, rfl, (AWi 229 (by decide +kernel) rfl), Or.inl ⟨rfl, (AWi 228 (by decide +kernel) rfl), (AWi 230 (by decide +kernel) rfl)⟩⟩
set_option maxRecDepth 100000 in
theorem tc_X11_51_5 : XCv RX11 51 5 yX5_length := ⟨RX5, TX5, 2, rfl, (AWi 233 (by decide +kernel) rfl), Or.inl ⟨rfl, (AWi 232 (by decide +kernel) rfl), (AWi 234 (by decide +kernel) rfl)⟩⟩
set_option maxRecDepth 100000 in
theorem tc_X11_55_5 : XCv RX11 55 5 yX5_clear := ⟨RX5, TX5, 2, rfl, (AWi 241 (by decide +kernel) rfl), Or.inl ⟨rfl, (AWi 240 (by decide +kernel) rfl), (AWi 242 (by decide +kernel) rfl)⟩⟩
set_option maxRecDepth 100000 in
theorem tc_X11_58_5 : XCv RX11 58 5 yX5_firstFault := ⟨RX5, TX5, 2, rfl, (AWi 249 (by decide +kernel) rfl), Or.inl ⟨rfl, (AWi 248 (by decide +kernel) rfl), (AWi 250 (by decide +kernel) rfl)⟩⟩
set_option maxRecDepth 100000 in
theorem tc_X11_61_5 : XCv RX11 61 5 yX5_isStation := ⟨RX5, TX5, 2, rfl, (AWi 277 (by decide +kernel) rfl), Or.inl ⟨rfl, (AWi 276 (by decide +kernel) rfl), (AWi 278 (by decide +kernel) rfl)⟩⟩
set_option maxRecDepth 100000 in
theorem tc_X11_64_6 : XCv RX11 64 6 yX6_read := ⟨RX6, TX6, 4, rfl, (AWi 282 (by decide +kernel) rfl), Or.inl ⟨rfl, (AWi 281 (by decide +kernel) rfl), (AWi 283 (by decide +kernel) rfl)⟩⟩
set_option maxRecDepth 100000 in
theorem tc_X11_68_7 : XCv RX11 68 7 yX7_begin := ⟨RX7, TX7, 5, rfl, (AWi 370 (by decide +kernel) rfl), Or.inl ⟨rfl, (AWi 369 (by decide +kernel) rfl), (AWi 371 (by decide +kernel) rfl)⟩⟩
set_option maxRecDepth 100000 in
theorem tc_X11_80_6 : XCv RX11 80 6 yX6_crimesMany := ⟨RX6, TX6, 4, rfl, (AWi 382 (by decide +kernel) rfl), Or.inl ⟨rfl, (AWi 381 (by decide +kernel) rfl), (AWi 383 (by decide +kernel) rfl)⟩⟩
set_option maxRecDepth 100000 in
theorem tc_X11_83_6 : XCv RX11 83 6 yX6_manOf := ⟨RX6, TX6, 4, rfl, (AWi 390 (by decide +kernel) rfl), Or.inl ⟨rfl, (AWi 389 (by decide +kernel) rfl), (AWi 391 (by decide +kernel) rfl)⟩⟩
set_option maxRecDepth 100000 in
theorem tc_X11_87_0 : XCv RX11 87 0 yX0_kind := ⟨RX0, TX0, 2, rfl, (AWi 398 (by decide +kernel) rfl), Or.inr (Or.inr ⟨yX3_kind, "ConfessBySize$Man", cX3_kind, 1, (some FieldType.int), (AWi 393 (by decide +kernel) rfl), (AWi 396 (by decide +kernel) rfl), (AWi 394 (by decide +kernel) rfl), (AWi 397 (by decide +kernel) rfl), (AWi 409 (by decide +kernel) rfl), by decide +kernel, by decide +kernel, rfl⟩)⟩
set_option maxRecDepth 100000 in
theorem tc_X11_87_2 : XCv RX11 87 2 yX2_kind := ⟨RX2, TX2, 2, rfl, (AWi 401 (by decide +kernel) rfl), Or.inr (Or.inr ⟨yX3_kind, "ConfessBySize$Man", cX3_kind, 1, (some FieldType.int), (AWi 393 (by decide +kernel) rfl), (AWi 396 (by decide +kernel) rfl), (AWi 394 (by decide +kernel) rfl), (AWi 400 (by decide +kernel) rfl), (AWi 409 (by decide +kernel) rfl), by decide +kernel, by decide +kernel, rfl⟩)⟩
set_option maxRecDepth 100000 in
theorem tc_X11_87_3 : XCv RX11 87 3 yX3_kind := ⟨RX3, TX3, 2, rfl, (AWi 394 (by decide +kernel) rfl), Or.inl ⟨rfl, (AWi 393 (by decide +kernel) rfl), (AWi 395 (by decide +kernel) rfl)⟩⟩
set_option maxRecDepth 100000 in
theorem tc_X11_87_8 : XCv RX11 87 8 yX8_kind := ⟨RX8, TX8, 2, rfl, (AWi 404 (by decide +kernel) rfl), Or.inr (Or.inr ⟨yX3_kind, "ConfessBySize$Man", cX3_kind, 1, (some FieldType.int), (AWi 393 (by decide +kernel) rfl), (AWi 396 (by decide +kernel) rfl), (AWi 394 (by decide +kernel) rfl), (AWi 403 (by decide +kernel) rfl), (AWi 409 (by decide +kernel) rfl), by decide +kernel, by decide +kernel, rfl⟩)⟩
set_option maxRecDepth 100000 in
theorem tc_X11_87_9 : XCv RX11 87 9 yX9_kind := ⟨RX9, TX9, 2, rfl, (AWi 407 (by decide +kernel) rfl), Or.inr (Or.inr ⟨yX3_kind, "ConfessBySize$Man", cX3_kind, 1, (some FieldType.int), (AWi 393 (by decide +kernel) rfl), (AWi 396 (by decide +kernel) rfl), (AWi 394 (by decide +kernel) rfl), (AWi 406 (by decide +kernel) rfl), (AWi 409 (by decide +kernel) rfl), by decide +kernel, by decide +kernel, rfl⟩)⟩
set_option maxRecDepth 100000 in
theorem tc_X11_98_0 : XCv RX11 98 0 yX0_bears := ⟨RX0, TX0, 2, rfl, (AWi 415 (by decide +kernel) rfl), Or.inr (Or.inr ⟨yX3_bears, "ConfessBySize$Man", cX3_bears, 1, (some FieldType.int), (AWi 410 (by decide +kernel) rfl), (AWi 413 (by decide +kernel) rfl), (AWi 411 (by decide +kernel) rfl), (AWi 414 (by decide +kernel) rfl), (AWi 422 (by decide +kernel) rfl), by decide +kernel, by decide +kernel, rfl⟩)⟩
set_option maxRecDepth 100000 in
theorem tc_X11_98_2 : XCv RX11 98 2 yX3_bears := ⟨RX2, TX2, 2, rfl, (AWi 411 (by decide +kernel) rfl), Or.inr (Or.inl ⟨yX3_bears, "ConfessBySize$Man", rfl, (AWi 410 (by decide +kernel) rfl), (AWi 413 (by decide +kernel) rfl), (AWi 417 (by decide +kernel) rfl), by decide +kernel, by decide +kernel, rfl⟩)⟩
set_option maxRecDepth 100000 in
theorem tc_X11_98_3 : XCv RX11 98 3 yX3_bears := ⟨RX3, TX3, 2, rfl, (AWi 411 (by decide +kernel) rfl), Or.inl ⟨rfl, (AWi 410 (by decide +kernel) rfl), (AWi 412 (by decide +kernel) rfl)⟩⟩
set_option maxRecDepth 100000 in
theorem tc_X11_98_8 : XCv RX11 98 8 yX8_bears := ⟨RX8, TX8, 2, rfl, (AWi 419 (by decide +kernel) rfl), Or.inr (Or.inr ⟨yX3_bears, "ConfessBySize$Man", cX3_bears, 1, (some FieldType.int), (AWi 410 (by decide +kernel) rfl), (AWi 413 (by decide +kernel) rfl), (AWi 411 (by decide +kernel) rfl), (AWi 418 (by decide +kernel) rfl), (AWi 422 (by decide +kernel) rfl), by decide +kernel, by decide +kernel, rfl⟩)⟩
set_option maxRecDepth 100000 in
theorem tc_X11_98_9 : XCv RX11 98 9 yX8_bears := ⟨RX9, TX9, 2, rfl, (AWi 419 (by decide +kernel) rfl), Or.inr (Or.inr ⟨yX3_bears, "ConfessBySize$Man", cX3_bears, 1, (some FieldType.int), (AWi 410 (by decide +kernel) rfl), (AWi 413 (by decide +kernel) rfl), (AWi 411 (by decide +kernel) rfl), (AWi 421 (by decide +kernel) rfl), (AWi 422 (by decide +kernel) rfl), by decide +kernel, by decide +kernel, rfl⟩)⟩
set_option maxRecDepth 100000 in
theorem tc_X11_101_7 : XCv RX11 101 7 yX7_crimeOn := ⟨RX7, TX7, 5, rfl, (AWi 424 (by decide +kernel) rfl), Or.inl ⟨rfl, (AWi 423 (by decide +kernel) rfl), (AWi 425 (by decide +kernel) rfl)⟩⟩
set_option maxRecDepth 100000 in
theorem tc_X11_105_11 : XCv RX11 105 11 yX11_paidTo := ⟨RX11, TX11, 9, rfl, (AWi 429 (by decide +kernel) rfl), Or.inl ⟨rfl, (AWi 427 (by decide +kernel) rfl), (AWi 0 (by decide +kernel) rfl)⟩⟩
set_option maxRecDepth 100000 in
theorem tc_X11_109_11 : XCv RX11 109 11 yX11_crimesFitting := ⟨RX11, TX11, 9, rfl, (AWi 434 (by decide +kernel) rfl), Or.inl ⟨rfl, (AWi 432 (by decide +kernel) rfl), (AWi 1 (by decide +kernel) rfl)⟩⟩
set_option maxRecDepth 100000 in
theorem tc_X11_112_11 : XCv RX11 112 11 yX11_sizesLeft := ⟨RX11, TX11, 9, rfl, (AWi 481 (by decide +kernel) rfl), Or.inl ⟨rfl, (AWi 479 (by decide +kernel) rfl), (AWi 3 (by decide +kernel) rfl)⟩⟩
set_option maxRecDepth 100000 in
theorem tc_X11_115_11 : XCv RX11 115 11 yX11_nextToTry := ⟨RX11, TX11, 9, rfl, (AWi 493 (by decide +kernel) rfl), Or.inl ⟨rfl, (AWi 491 (by decide +kernel) rfl), (AWi 4 (by decide +kernel) rfl)⟩⟩
set_option maxRecDepth 100000 in
theorem tc_X11_122_6 : XCv RX11 122 6 yX6_crimeOf := ⟨RX6, TX6, 4, rfl, (AWi 374 (by decide +kernel) rfl), Or.inl ⟨rfl, (AWi 431 (by decide +kernel) rfl), (AWi 375 (by decide +kernel) rfl)⟩⟩
set_option maxRecDepth 100000 in
theorem tc_X11_126_7 : XCv RX11 126 7 yX7_sizeOf := ⟨RX7, TX7, 5, rfl, (AWi 437 (by decide +kernel) rfl), Or.inl ⟨rfl, (AWi 436 (by decide +kernel) rfl), (AWi 438 (by decide +kernel) rfl)⟩⟩
set_option maxRecDepth 100000 in
theorem tc_X11_135_7 : XCv RX11 135 7 yX7_hangsOn := ⟨RX7, TX7, 5, rfl, (AWi 524 (by decide +kernel) rfl), Or.inl ⟨rfl, (AWi 523 (by decide +kernel) rfl), (AWi 525 (by decide +kernel) rfl)⟩⟩
set_option maxRecDepth 100000 in
theorem tc_X11_138_11 : XCv RX11 138 11 yX11_peopleFitted := ⟨RX11, TX11, 9, rfl, (AWi 529 (by decide +kernel) rfl), Or.inl ⟨rfl, (AWi 527 (by decide +kernel) rfl), (AWi 6 (by decide +kernel) rfl)⟩⟩
set_option maxRecDepth 100000 in
theorem tc_X11_141_11 : XCv RX11 141 11 yX11_halvesOf := ⟨RX11, TX11, 9, rfl, (AWi 537 (by decide +kernel) rfl), Or.inl ⟨rfl, (AWi 535 (by decide +kernel) rfl), (AWi 7 (by decide +kernel) rfl)⟩⟩
set_option maxRecDepth 100000 in
theorem tc_X11_144_11 : XCv RX11 144 11 yX11_mayConfess := ⟨RX11, TX11, 9, rfl, (AWi 551 (by decide +kernel) rfl), Or.inl ⟨rfl, (AWi 549 (by decide +kernel) rfl), (AWi 9 (by decide +kernel) rfl)⟩⟩
set_option maxRecDepth 100000 in
theorem tc_X11_148_7 : XCv RX11 148 7 yX7_hang := ⟨RX7, TX7, 5, rfl, (AWi 569 (by decide +kernel) rfl), Or.inl ⟨rfl, (AWi 568 (by decide +kernel) rfl), (AWi 570 (by decide +kernel) rfl)⟩⟩
set_option maxRecDepth 100000 in
theorem tc_X11_159_7 : XCv RX11 159 7 yX7_resize := ⟨RX7, TX7, 5, rfl, (AWi 584 (by decide +kernel) rfl), Or.inl ⟨rfl, (AWi 583 (by decide +kernel) rfl), (AWi 585 (by decide +kernel) rfl)⟩⟩
set_option maxRecDepth 100000 in
theorem tc_X11_168_11 : XCv RX11 168 11 yX11_isOpen := ⟨RX11, TX11, 9, rfl, (AWi 596 (by decide +kernel) rfl), Or.inl ⟨rfl, (AWi 594 (by decide +kernel) rfl), (AWi 11 (by decide +kernel) rfl)⟩⟩
set_option maxRecDepth 100000 in
theorem tc_X11_171_11 : XCv RX11 171 11 yX11_findMatch := ⟨RX11, TX11, 9, rfl, (AWi 600 (by decide +kernel) rfl), Or.inl ⟨rfl, (AWi 598 (by decide +kernel) rfl), (AWi 12 (by decide +kernel) rfl)⟩⟩
set_option maxRecDepth 100000 in
theorem tc_X11_174_11 : XCv RX11 174 11 yX11_toldOfMatch := ⟨RX11, TX11, 9, rfl, (AWi 628 (by decide +kernel) rfl), Or.inl ⟨rfl, (AWi 626 (by decide +kernel) rfl), (AWi 14 (by decide +kernel) rfl)⟩⟩
set_option maxRecDepth 100000 in
theorem tc_X11_188_10 : XCv RX11 188 10 yX10_isFull := ⟨RX10, TX10, 5, rfl, (AWi 650 (by decide +kernel) rfl), Or.inl ⟨rfl, (AWi 649 (by decide +kernel) rfl), (AWi 651 (by decide +kernel) rfl)⟩⟩
set_option maxRecDepth 100000 in
theorem tc_X11_191_10 : XCv RX11 191 10 yX10_add := ⟨RX10, TX10, 5, rfl, (AWi 654 (by decide +kernel) rfl), Or.inl ⟨rfl, (AWi 653 (by decide +kernel) rfl), (AWi 655 (by decide +kernel) rfl)⟩⟩
set_option maxRecDepth 100000 in
theorem tc_X11_194_10 : XCv RX11 194 10 yX10_many := ⟨RX10, TX10, 5, rfl, (AWi 658 (by decide +kernel) rfl), Or.inl ⟨rfl, (AWi 657 (by decide +kernel) rfl), (AWi 659 (by decide +kernel) rfl)⟩⟩
set_option maxRecDepth 100000 in
theorem tc_X11_197_10 : XCv RX11 197 10 yX10_clear := ⟨RX10, TX10, 5, rfl, (AWi 378 (by decide +kernel) rfl), Or.inl ⟨rfl, (AWi 665 (by decide +kernel) rfl), (AWi 379 (by decide +kernel) rfl)⟩⟩
set_option maxRecDepth 100000 in
theorem tc_X11_198_7 : XCv RX11 198 7 yX7_copyFrom := ⟨RX7, TX7, 5, rfl, (AWi 671 (by decide +kernel) rfl), Or.inl ⟨rfl, (AWi 670 (by decide +kernel) rfl), (AWi 672 (by decide +kernel) rfl)⟩⟩
set_option maxRecDepth 100000 in
theorem tc_X11_205_6 : XCv RX11 205 6 yX6_peopleMany := ⟨RX6, TX6, 4, rfl, (AWi 532 (by decide +kernel) rfl), Or.inl ⟨rfl, (AWi 531 (by decide +kernel) rfl), (AWi 533 (by decide +kernel) rfl)⟩⟩
set_option maxRecDepth 100000 in
theorem tc_X11_212_11 : XCv RX11 212 11 yX11_comesFor := ⟨RX11, TX11, 9, rfl, (AWi 694 (by decide +kernel) rfl), Or.inl ⟨rfl, (AWi 692 (by decide +kernel) rfl), (AWi 16 (by decide +kernel) rfl)⟩⟩
set_option maxRecDepth 100000 in
theorem tc_X11_215_7 : XCv RX11 215 7 yX7_hanging := ⟨RX7, TX7, 5, rfl, (AWi 697 (by decide +kernel) rfl), Or.inl ⟨rfl, (AWi 696 (by decide +kernel) rfl), (AWi 698 (by decide +kernel) rfl)⟩⟩
set_option maxRecDepth 100000 in
theorem tc_X11_218_11 : XCv RX11 218 11 yX11_paidInAll := ⟨RX11, TX11, 9, rfl, (AWi 702 (by decide +kernel) rfl), Or.inl ⟨rfl, (AWi 700 (by decide +kernel) rfl), (AWi 17 (by decide +kernel) rfl)⟩⟩
set_option maxRecDepth 100000 in
theorem tc_X11_226_11 : XCv RX11 226 11 yX11_about := ⟨RX11, TX11, 9, rfl, (AWi 386 (by decide +kernel) rfl), Or.inl ⟨rfl, (AWi 722 (by decide +kernel) rfl), (AWi 387 (by decide +kernel) rfl)⟩⟩
set_option maxRecDepth 100000 in
theorem tc_X11_229_11 : XCv RX11 229 11 yX11_crime := ⟨RX11, TX11, 9, rfl, (AWi 520 (by decide +kernel) rfl), Or.inl ⟨rfl, (AWi 723 (by decide +kernel) rfl), (AWi 521 (by decide +kernel) rfl)⟩⟩
set_option maxRecDepth 100000 in
theorem tc_X11_232_11 : XCv RX11 232 11 yX11_withMatch := ⟨RX11, TX11, 9, rfl, (AWi 726 (by decide +kernel) rfl), Or.inl ⟨rfl, (AWi 724 (by decide +kernel) rfl), (AWi 18 (by decide +kernel) rfl)⟩⟩
set_option maxRecDepth 100000 in
theorem tc_X11_236_5 : XCv RX11 236 5 yX5_codeAt := ⟨RX5, TX5, 2, rfl, (AWi 257 (by decide +kernel) rfl), Or.inl ⟨rfl, (AWi 728 (by decide +kernel) rfl), (AWi 258 (by decide +kernel) rfl)⟩⟩
set_option maxRecDepth 100000 in
theorem tc_X11_239_11 : XCv RX11 239 11 yX11_count := ⟨RX11, TX11, 9, rfl, (AWi 713 (by decide +kernel) rfl), Or.inl ⟨rfl, (AWi 729 (by decide +kernel) rfl), (AWi 714 (by decide +kernel) rfl)⟩⟩
set_option maxRecDepth 100000 in
theorem tc_X11_250_0 : XCv RX11 250 0 yX3_wouldFit := ⟨RX0, TX0, 2, rfl, (AWi 445 (by decide +kernel) rfl), Or.inr (Or.inl ⟨yX3_wouldFit, "ConfessBySize$Man", rfl, (AWi 444 (by decide +kernel) rfl), (AWi 447 (by decide +kernel) rfl), (AWi 448 (by decide +kernel) rfl), by decide +kernel, by decide +kernel, rfl⟩)⟩
set_option maxRecDepth 100000 in
theorem tc_X11_250_2 : XCv RX11 250 2 yX3_wouldFit := ⟨RX2, TX2, 2, rfl, (AWi 445 (by decide +kernel) rfl), Or.inr (Or.inl ⟨yX3_wouldFit, "ConfessBySize$Man", rfl, (AWi 444 (by decide +kernel) rfl), (AWi 447 (by decide +kernel) rfl), (AWi 449 (by decide +kernel) rfl), by decide +kernel, by decide +kernel, rfl⟩)⟩
set_option maxRecDepth 100000 in
theorem tc_X11_250_3 : XCv RX11 250 3 yX3_wouldFit := ⟨RX3, TX3, 2, rfl, (AWi 445 (by decide +kernel) rfl), Or.inl ⟨rfl, (AWi 444 (by decide +kernel) rfl), (AWi 446 (by decide +kernel) rfl)⟩⟩
set_option maxRecDepth 100000 in
theorem tc_X11_250_8 : XCv RX11 250 8 yX3_wouldFit := ⟨RX8, TX8, 2, rfl, (AWi 445 (by decide +kernel) rfl), Or.inr (Or.inl ⟨yX3_wouldFit, "ConfessBySize$Man", rfl, (AWi 444 (by decide +kernel) rfl), (AWi 447 (by decide +kernel) rfl), (AWi 450 (by decide +kernel) rfl), by decide +kernel, by decide +kernel, rfl⟩)⟩
set_option maxRecDepth 100000 in
theorem tc_X11_250_9 : XCv RX11 250 9 yX3_wouldFit := ⟨RX9, TX9, 2, rfl, (AWi 445 (by decide +kernel) rfl), Or.inr (Or.inl ⟨yX3_wouldFit, "ConfessBySize$Man", rfl, (AWi 444 (by decide +kernel) rfl), (AWi 447 (by decide +kernel) rfl), (AWi 451 (by decide +kernel) rfl), by decide +kernel, by decide +kernel, rfl⟩)⟩
set_option maxRecDepth 100000 in
theorem tc_X11_254_11 : XCv RX11 254 11 yX11_isFitting := ⟨RX11, TX11, 9, rfl, (AWi 442 (by decide +kernel) rfl), Or.inl ⟨rfl, (AWi 440 (by decide +kernel) rfl), (AWi 2 (by decide +kernel) rfl)⟩⟩
set_option maxRecDepth 100000 in
theorem tc_X11_257_11 : XCv RX11 257 11 yX11_canGoHalves := ⟨RX11, TX11, 9, rfl, (AWi 541 (by decide +kernel) rfl), Or.inl ⟨rfl, (AWi 539 (by decide +kernel) rfl), (AWi 8 (by decide +kernel) rfl)⟩⟩
set_option maxRecDepth 100000 in
theorem tc_X11_260_0 : XCv RX11 260 0 yX3_counted := ⟨RX0, TX0, 2, rfl, (AWi 465 (by decide +kernel) rfl), Or.inr (Or.inl ⟨yX3_counted, "ConfessBySize$Man", rfl, (AWi 543 (by decide +kernel) rfl), (AWi 467 (by decide +kernel) rfl), (AWi 468 (by decide +kernel) rfl), by decide +kernel, by decide +kernel, rfl⟩)⟩
set_option maxRecDepth 100000 in
theorem tc_X11_260_2 : XCv RX11 260 2 yX2_counted := ⟨RX2, TX2, 2, rfl, (AWi 470 (by decide +kernel) rfl), Or.inr (Or.inr ⟨yX3_counted, "ConfessBySize$Man", cX3_counted, 2, (some FieldType.int), (AWi 543 (by decide +kernel) rfl), (AWi 467 (by decide +kernel) rfl), (AWi 465 (by decide +kernel) rfl), (AWi 469 (by decide +kernel) rfl), (AWi 474 (by decide +kernel) rfl), by decide +kernel, by decide +kernel, rfl⟩)⟩
set_option maxRecDepth 100000 in
theorem tc_X11_260_3 : XCv RX11 260 3 yX3_counted := ⟨RX3, TX3, 2, rfl, (AWi 465 (by decide +kernel) rfl), Or.inl ⟨rfl, (AWi 543 (by decide +kernel) rfl), (AWi 466 (by decide +kernel) rfl)⟩⟩
set_option maxRecDepth 100000 in
theorem tc_X11_260_8 : XCv RX11 260 8 yX3_counted := ⟨RX8, TX8, 2, rfl, (AWi 465 (by decide +kernel) rfl), Or.inr (Or.inl ⟨yX3_counted, "ConfessBySize$Man", rfl, (AWi 543 (by decide +kernel) rfl), (AWi 467 (by decide +kernel) rfl), (AWi 472 (by decide +kernel) rfl), by decide +kernel, by decide +kernel, rfl⟩)⟩
set_option maxRecDepth 100000 in
theorem tc_X11_260_9 : XCv RX11 260 9 yX3_counted := ⟨RX9, TX9, 2, rfl, (AWi 465 (by decide +kernel) rfl), Or.inr (Or.inl ⟨yX3_counted, "ConfessBySize$Man", rfl, (AWi 543 (by decide +kernel) rfl), (AWi 467 (by decide +kernel) rfl), (AWi 473 (by decide +kernel) rfl), by decide +kernel, by decide +kernel, rfl⟩)⟩
set_option maxRecDepth 100000 in
theorem tc_X11_263_0 : XCv RX11 263 0 yX3_hasHandLike := ⟨RX0, TX0, 2, rfl, (AWi 454 (by decide +kernel) rfl), Or.inr (Or.inl ⟨yX3_hasHandLike, "ConfessBySize$Man", rfl, (AWi 544 (by decide +kernel) rfl), (AWi 456 (by decide +kernel) rfl), (AWi 457 (by decide +kernel) rfl), by decide +kernel, by decide +kernel, rfl⟩)⟩
set_option maxRecDepth 100000 in
theorem tc_X11_263_2 : XCv RX11 263 2 yX3_hasHandLike := ⟨RX2, TX2, 2, rfl, (AWi 454 (by decide +kernel) rfl), Or.inr (Or.inl ⟨yX3_hasHandLike, "ConfessBySize$Man", rfl, (AWi 544 (by decide +kernel) rfl), (AWi 456 (by decide +kernel) rfl), (AWi 458 (by decide +kernel) rfl), by decide +kernel, by decide +kernel, rfl⟩)⟩
set_option maxRecDepth 100000 in
theorem tc_X11_263_3 : XCv RX11 263 3 yX3_hasHandLike := ⟨RX3, TX3, 2, rfl, (AWi 454 (by decide +kernel) rfl), Or.inl ⟨rfl, (AWi 544 (by decide +kernel) rfl), (AWi 455 (by decide +kernel) rfl)⟩⟩
set_option maxRecDepth 100000 in
theorem tc_X11_263_8 : XCv RX11 263 8 yX3_hasHandLike := ⟨RX8, TX8, 2, rfl, (AWi 454 (by decide +kernel) rfl), Or.inr (Or.inl ⟨yX3_hasHandLike, "ConfessBySize$Man", rfl, (AWi 544 (by decide +kernel) rfl), (AWi 456 (by decide +kernel) rfl), (AWi 459 (by decide +kernel) rfl), by decide +kernel, by decide +kernel, rfl⟩)⟩
set_option maxRecDepth 100000 in
theorem tc_X11_263_9 : XCv RX11 263 9 yX9_hasHandLike := ⟨RX9, TX9, 2, rfl, (AWi 461 (by decide +kernel) rfl), Or.inr (Or.inr ⟨yX3_hasHandLike, "ConfessBySize$Man", cX3_hasHandLike, 2, (some FieldType.boolean), (AWi 544 (by decide +kernel) rfl), (AWi 456 (by decide +kernel) rfl), (AWi 454 (by decide +kernel) rfl), (AWi 460 (by decide +kernel) rfl), (AWi 463 (by decide +kernel) rfl), by decide +kernel, by decide +kernel, rfl⟩)⟩
set_option maxRecDepth 100000 in
theorem tc_X11_266_0 : XCv RX11 266 0 yX0_doesConfess := ⟨RX0, TX0, 2, rfl, (AWi 562 (by decide +kernel) rfl), Or.inr (Or.inr ⟨yX3_doesConfess, "ConfessBySize$Man", cX3_doesConfess, 1, (some FieldType.boolean), (AWi 557 (by decide +kernel) rfl), (AWi 560 (by decide +kernel) rfl), (AWi 558 (by decide +kernel) rfl), (AWi 561 (by decide +kernel) rfl), (AWi 567 (by decide +kernel) rfl), by decide +kernel, by decide +kernel, rfl⟩)⟩
set_option maxRecDepth 100000 in
theorem tc_X11_266_2 : XCv RX11 266 2 yX3_doesConfess := ⟨RX2, TX2, 2, rfl, (AWi 558 (by decide +kernel) rfl), Or.inr (Or.inl ⟨yX3_doesConfess, "ConfessBySize$Man", rfl, (AWi 557 (by decide +kernel) rfl), (AWi 560 (by decide +kernel) rfl), (AWi 564 (by decide +kernel) rfl), by decide +kernel, by decide +kernel, rfl⟩)⟩
set_option maxRecDepth 100000 in
theorem tc_X11_266_3 : XCv RX11 266 3 yX3_doesConfess := ⟨RX3, TX3, 2, rfl, (AWi 558 (by decide +kernel) rfl), Or.inl ⟨rfl, (AWi 557 (by decide +kernel) rfl), (AWi 559 (by decide +kernel) rfl)⟩⟩
set_option maxRecDepth 100000 in
theorem tc_X11_266_8 : XCv RX11 266 8 yX3_doesConfess := ⟨RX8, TX8, 2, rfl, (AWi 558 (by decide +kernel) rfl), Or.inr (Or.inl ⟨yX3_doesConfess, "ConfessBySize$Man", rfl, (AWi 557 (by decide +kernel) rfl), (AWi 560 (by decide +kernel) rfl), (AWi 565 (by decide +kernel) rfl), by decide +kernel, by decide +kernel, rfl⟩)⟩
set_option maxRecDepth 100000 in
theorem tc_X11_266_9 : XCv RX11 266 9 yX3_doesConfess := ⟨RX9, TX9, 2, rfl, (AWi 558 (by decide +kernel) rfl), Or.inr (Or.inl ⟨yX3_doesConfess, "ConfessBySize$Man", rfl, (AWi 557 (by decide +kernel) rfl), (AWi 560 (by decide +kernel) rfl), (AWi 566 (by decide +kernel) rfl), by decide +kernel, by decide +kernel, rfl⟩)⟩
set_option maxRecDepth 100000 in
theorem tc_X11_269_11 : XCv RX11 269 11 yX11_isFree := ⟨RX11, TX11, 9, rfl, (AWi 555 (by decide +kernel) rfl), Or.inl ⟨rfl, (AWi 553 (by decide +kernel) rfl), (AWi 10 (by decide +kernel) rfl)⟩⟩
set_option maxRecDepth 100000 in
theorem tc_X11_273_4 : XCv RX11 273 4 yX4_begin := ⟨RX4, TX4, 7, rfl, (AWi 603 (by decide +kernel) rfl), Or.inl ⟨rfl, (AWi 602 (by decide +kernel) rfl), (AWi 604 (by decide +kernel) rfl)⟩⟩
set_option maxRecDepth 100000 in
theorem tc_X11_275_4 : XCv RX11 275 4 yX4_allow := ⟨RX4, TX4, 7, rfl, (AWi 608 (by decide +kernel) rfl), Or.inl ⟨rfl, (AWi 607 (by decide +kernel) rfl), (AWi 609 (by decide +kernel) rfl)⟩⟩
set_option maxRecDepth 100000 in
theorem tc_X11_278_4 : XCv RX11 278 4 yX4_reward := ⟨RX4, TX4, 7, rfl, (AWi 612 (by decide +kernel) rfl), Or.inl ⟨rfl, (AWi 611 (by decide +kernel) rfl), (AWi 613 (by decide +kernel) rfl)⟩⟩
set_option maxRecDepth 100000 in
theorem tc_X11_280_4 : XCv RX11 280 4 yX4_find := ⟨RX4, TX4, 7, rfl, (AWi 616 (by decide +kernel) rfl), Or.inl ⟨rfl, (AWi 615 (by decide +kernel) rfl), (AWi 617 (by decide +kernel) rfl)⟩⟩
set_option maxRecDepth 100000 in
theorem tc_X11_289_4 : XCv RX11 289 4 yX4_bestOn := ⟨RX4, TX4, 7, rfl, (AWi 631 (by decide +kernel) rfl), Or.inl ⟨rfl, (AWi 630 (by decide +kernel) rfl), (AWi 632 (by decide +kernel) rfl)⟩⟩
set_option maxRecDepth 100000 in
theorem tc_X11_292_11 : XCv RX11 292 11 yX11_stitchesFor := ⟨RX11, TX11, 9, rfl, (AWi 643 (by decide +kernel) rfl), Or.inl ⟨rfl, (AWi 641 (by decide +kernel) rfl), (AWi 15 (by decide +kernel) rfl)⟩⟩
set_option maxRecDepth 100000 in
theorem tc_X11_295_10 : XCv RX11 295 10 yX10_allow := ⟨RX10, TX10, 5, rfl, (AWi 484 (by decide +kernel) rfl), Or.inl ⟨rfl, (AWi 483 (by decide +kernel) rfl), (AWi 485 (by decide +kernel) rfl)⟩⟩
set_option maxRecDepth 100000 in
theorem tc_X11_301_11 : XCv RX11 301 11 yX11_leftAtWorst := ⟨RX11, TX11, 9, rfl, (AWi 497 (by decide +kernel) rfl), Or.inl ⟨rfl, (AWi 495 (by decide +kernel) rfl), (AWi 5 (by decide +kernel) rfl)⟩⟩
set_option maxRecDepth 100000 in
theorem tc_X12_1 : Cond.methodLink RX12 1 objectInit ∈ AW ∧ Cond.instanceMethod objectInit ∈ AW ∧ Cond.code objectInit ⟨#[0xb1]⟩ 1 none ∈ AW := ⟨(AWi 735 (by decide +kernel) rfl), t_obj⟩
set_option maxRecDepth 100000 in
theorem tc_X12_71 : XCs RX12 71 yX12_within := ⟨(AWi 862 (by decide +kernel) rfl), (AWi 863 (by decide +kernel) rfl)⟩
set_option maxRecDepth 100000 in
theorem tc_X12_79 : XCs RX12 79 yX12_kindBy := ⟨(AWi 881 (by decide +kernel) rfl), (AWi 882 (by decide +kernel) rfl)⟩
set_option maxRecDepth 100000 in
theorem tc_X12_188 : XCs RX12 188 yX12_isIn := ⟨(AWi 949 (by decide +kernel) rfl), (AWi 950 (by decide +kernel) rfl)⟩
set_option maxRecDepth 100000 in
theorem tc_X12_83_12 : XCv RX12 83 12 yX12_isFigure := ⟨RX12, TX12, 40, rfl, (AWi 886 (by decide +kernel) rfl), Or.inl ⟨rfl, (AWi 884 (by decide +kernel) rfl), (AWi 21 (by decide +kernel) rfl)⟩⟩
set_option maxRecDepth 100000 in
theorem tc_X12_96_12 : XCv RX12 96 12 yX12_readOne := ⟨RX12, TX12, 40, rfl, (AWi 879 (by decide +kernel) rfl), Or.inl ⟨rfl, (AWi 877 (by decide +kernel) rfl), (AWi 20 (by decide +kernel) rfl)⟩⟩
set_option maxRecDepth 100000 in
theorem tc_X12_99_12 : XCv RX12 99 12 yX12_readCrimes := ⟨RX12, TX12, 40, rfl, (AWi 890 (by decide +kernel) rfl), Or.inl ⟨rfl, (AWi 888 (by decide +kernel) rfl), (AWi 22 (by decide +kernel) rfl)⟩⟩
set_option maxRecDepth 100000 in
theorem tc_X12_102_12 : XCv RX12 102 12 yX12_read := ⟨RX12, TX12, 40, rfl, (AWi 875 (by decide +kernel) rfl), Or.inl ⟨rfl, (AWi 873 (by decide +kernel) rfl), (AWi 19 (by decide +kernel) rfl)⟩⟩
set_option maxRecDepth 100000 in
theorem tc_X12_124_12 : XCv RX12 124 12 yX12_counts := ⟨RX12, TX12, 40, rfl, (AWi 930 (by decide +kernel) rfl), Or.inl ⟨rfl, (AWi 928 (by decide +kernel) rfl), (AWi 30 (by decide +kernel) rfl)⟩⟩
set_option maxRecDepth 100000 in
theorem tc_X12_128_12 : XCv RX12 128 12 yX12_isHand := ⟨RX12, TX12, 40, rfl, (AWi 934 (by decide +kernel) rfl), Or.inl ⟨rfl, (AWi 932 (by decide +kernel) rfl), (AWi 31 (by decide +kernel) rfl)⟩⟩
set_option maxRecDepth 100000 in
theorem tc_X12_132_12 : XCv RX12 132 12 yX12_bears := ⟨RX12, TX12, 40, rfl, (AWi 910 (by decide +kernel) rfl), Or.inl ⟨rfl, (AWi 908 (by decide +kernel) rfl), (AWi 25 (by decide +kernel) rfl)⟩⟩
set_option maxRecDepth 100000 in
theorem tc_X12_135_12 : XCv RX12 135 12 yX12_fitsBy := ⟨RX12, TX12, 40, rfl, (AWi 926 (by decide +kernel) rfl), Or.inl ⟨rfl, (AWi 924 (by decide +kernel) rfl), (AWi 29 (by decide +kernel) rfl)⟩⟩
set_option maxRecDepth 100000 in
theorem tc_X12_139_12 : XCv RX12 139 12 yX12_fits := ⟨RX12, TX12, 40, rfl, (AWi 922 (by decide +kernel) rfl), Or.inl ⟨rfl, (AWi 920 (by decide +kernel) rfl), (AWi 28 (by decide +kernel) rfl)⟩⟩
set_option maxRecDepth 100000 in
theorem tc_X12_142_12 : XCv RX12 142 12 yX12_paid := ⟨RX12, TX12, 40, rfl, (AWi 914 (by decide +kernel) rfl), Or.inl ⟨rfl, (AWi 912 (by decide +kernel) rfl), (AWi 26 (by decide +kernel) rfl)⟩⟩
set_option maxRecDepth 100000 in
theorem tc_X12_145_12 : XCv RX12 145 12 yX12_fitting := ⟨RX12, TX12, 40, rfl, (AWi 918 (by decide +kernel) rfl), Or.inl ⟨rfl, (AWi 916 (by decide +kernel) rfl), (AWi 27 (by decide +kernel) rfl)⟩⟩
set_option maxRecDepth 100000 in
theorem tc_X12_148_12 : XCv RX12 148 12 yX12_howLarge := ⟨RX12, TX12, 40, rfl, (AWi 938 (by decide +kernel) rfl), Or.inl ⟨rfl, (AWi 936 (by decide +kernel) rfl), (AWi 32 (by decide +kernel) rfl)⟩⟩
set_option maxRecDepth 100000 in
theorem tc_X12_151_12 : XCv RX12 151 12 yX12_nextOf := ⟨RX12, TX12, 40, rfl, (AWi 946 (by decide +kernel) rfl), Or.inl ⟨rfl, (AWi 944 (by decide +kernel) rfl), (AWi 34 (by decide +kernel) rfl)⟩⟩
set_option maxRecDepth 100000 in
theorem tc_X12_154_12 : XCv RX12 154 12 yX12_isOne := ⟨RX12, TX12, 40, rfl, (AWi 902 (by decide +kernel) rfl), Or.inl ⟨rfl, (AWi 900 (by decide +kernel) rfl), (AWi 23 (by decide +kernel) rfl)⟩⟩
set_option maxRecDepth 100000 in
theorem tc_X12_158_12 : XCv RX12 158 12 yX12_oneNow := ⟨RX12, TX12, 40, rfl, (AWi 906 (by decide +kernel) rfl), Or.inl ⟨rfl, (AWi 904 (by decide +kernel) rfl), (AWi 24 (by decide +kernel) rfl)⟩⟩
set_option maxRecDepth 100000 in
theorem tc_X12_161_12 : XCv RX12 161 12 yX12_hangsOn := ⟨RX12, TX12, 40, rfl, (AWi 970 (by decide +kernel) rfl), Or.inl ⟨rfl, (AWi 968 (by decide +kernel) rfl), (AWi 37 (by decide +kernel) rfl)⟩⟩
set_option maxRecDepth 100000 in
theorem tc_X12_164_12 : XCv RX12 164 12 yX12_fitted := ⟨RX12, TX12, 40, rfl, (AWi 974 (by decide +kernel) rfl), Or.inl ⟨rfl, (AWi 972 (by decide +kernel) rfl), (AWi 38 (by decide +kernel) rfl)⟩⟩
set_option maxRecDepth 100000 in
theorem tc_X12_167_12 : XCv RX12 167 12 yX12_halvesOf := ⟨RX12, TX12, 40, rfl, (AWi 978 (by decide +kernel) rfl), Or.inl ⟨rfl, (AWi 976 (by decide +kernel) rfl), (AWi 39 (by decide +kernel) rfl)⟩⟩
set_option maxRecDepth 100000 in
theorem tc_X12_170_12 : XCv RX12 170 12 yX12_isCrime := ⟨RX12, TX12, 40, rfl, (AWi 962 (by decide +kernel) rfl), Or.inl ⟨rfl, (AWi 960 (by decide +kernel) rfl), (AWi 35 (by decide +kernel) rfl)⟩⟩
set_option maxRecDepth 100000 in
theorem tc_X12_173_12 : XCv RX12 173 12 yX12_crimeNow := ⟨RX12, TX12, 40, rfl, (AWi 966 (by decide +kernel) rfl), Or.inl ⟨rfl, (AWi 964 (by decide +kernel) rfl), (AWi 36 (by decide +kernel) rfl)⟩⟩
set_option maxRecDepth 100000 in
theorem tc_X12_176_12 : XCv RX12 176 12 yX12_isFree := ⟨RX12, TX12, 40, rfl, (AWi 986 (by decide +kernel) rfl), Or.inl ⟨rfl, (AWi 984 (by decide +kernel) rfl), (AWi 40 (by decide +kernel) rfl)⟩⟩
set_option maxRecDepth 100000 in
theorem tc_X12_185_12 : XCv RX12 185 12 yX12_hasBy := ⟨RX12, TX12, 40, rfl, (AWi 1014 (by decide +kernel) rfl), Or.inl ⟨rfl, (AWi 1012 (by decide +kernel) rfl), (AWi 44 (by decide +kernel) rfl)⟩⟩
set_option maxRecDepth 100000 in
theorem tc_X12_191_12 : XCv RX12 191 12 yX12_codes := ⟨RX12, TX12, 40, rfl, (AWi 1006 (by decide +kernel) rfl), Or.inl ⟨rfl, (AWi 1004 (by decide +kernel) rfl), (AWi 42 (by decide +kernel) rfl)⟩⟩
set_option maxRecDepth 100000 in
theorem tc_X12_194_12 : XCv RX12 194 12 yX12_isMatch := ⟨RX12, TX12, 40, rfl, (AWi 1010 (by decide +kernel) rfl), Or.inl ⟨rfl, (AWi 1008 (by decide +kernel) rfl), (AWi 43 (by decide +kernel) rfl)⟩⟩
set_option maxRecDepth 100000 in
theorem tc_X12_197_12 : XCv RX12 197 12 yX12_matchNow := ⟨RX12, TX12, 40, rfl, (AWi 1002 (by decide +kernel) rfl), Or.inl ⟨rfl, (AWi 1000 (by decide +kernel) rfl), (AWi 41 (by decide +kernel) rfl)⟩⟩
set_option maxRecDepth 100000 in
theorem tc_X12_200_12 : XCv RX12 200 12 yX12_freeCrimes := ⟨RX12, TX12, 40, rfl, (AWi 1026 (by decide +kernel) rfl), Or.inl ⟨rfl, (AWi 1024 (by decide +kernel) rfl), (AWi 46 (by decide +kernel) rfl)⟩⟩
set_option maxRecDepth 100000 in
theorem tc_X12_204_12 : XCv RX12 204 12 yX12_alterBy := ⟨RX12, TX12, 40, rfl, (AWi 1030 (by decide +kernel) rfl), Or.inl ⟨rfl, (AWi 1028 (by decide +kernel) rfl), (AWi 47 (by decide +kernel) rfl)⟩⟩
set_option maxRecDepth 100000 in
theorem tc_X12_210_12 : XCv RX12 210 12 yX12_stitchesNow := ⟨RX12, TX12, 40, rfl, (AWi 1022 (by decide +kernel) rfl), Or.inl ⟨rfl, (AWi 1020 (by decide +kernel) rfl), (AWi 45 (by decide +kernel) rfl)⟩⟩
set_option maxRecDepth 100000 in
theorem tc_X12_213_12 : XCv RX12 213 12 yX12_couldBe := ⟨RX12, TX12, 40, rfl, (AWi 942 (by decide +kernel) rfl), Or.inl ⟨rfl, (AWi 940 (by decide +kernel) rfl), (AWi 33 (by decide +kernel) rfl)⟩⟩
set_option maxRecDepth 100000 in
theorem tc_X12_228_12 : XCv RX12 228 12 yX12_draw := ⟨RX12, TX12, 40, rfl, (AWi 1050 (by decide +kernel) rfl), Or.inl ⟨rfl, (AWi 1048 (by decide +kernel) rfl), (AWi 49 (by decide +kernel) rfl)⟩⟩
set_option maxRecDepth 100000 in
theorem tc_X12_231_12 : XCv RX12 231 12 yX12_paidAll := ⟨RX12, TX12, 40, rfl, (AWi 1058 (by decide +kernel) rfl), Or.inl ⟨rfl, (AWi 1056 (by decide +kernel) rfl), (AWi 50 (by decide +kernel) rfl)⟩⟩
set_option maxRecDepth 100000 in
theorem tc_X12_234_12 : XCv RX12 234 12 yX12_weeksNow := ⟨RX12, TX12, 40, rfl, (AWi 1046 (by decide +kernel) rfl), Or.inl ⟨rfl, (AWi 1044 (by decide +kernel) rfl), (AWi 48 (by decide +kernel) rfl)⟩⟩
set_option maxRecDepth 100000 in
theorem tc_X12_253_12 : XCv RX12 253 12 yX12_howMany := ⟨RX12, TX12, 40, rfl, (AWi 1074 (by decide +kernel) rfl), Or.inl ⟨rfl, (AWi 1072 (by decide +kernel) rfl), (AWi 51 (by decide +kernel) rfl)⟩⟩
set_option maxRecDepth 100000 in
theorem tc_X12_263_12 : XCv RX12 263 12 yX12_mix := ⟨RX12, TX12, 40, rfl, (AWi 1083 (by decide +kernel) rfl), Or.inl ⟨rfl, (AWi 1081 (by decide +kernel) rfl), (AWi 52 (by decide +kernel) rfl)⟩⟩
set_option maxRecDepth 100000 in
theorem tc_X2_3 : XCi RX2 3 yX3_init := ⟨rfl, (AWi 303 (by decide +kernel) rfl), Or.inl (AWi 329 (by decide +kernel) rfl)⟩
set_option maxRecDepth 100000 in
theorem tc_X3_3 : Cond.methodLink RX3 3 objectInit ∈ AW ∧ Cond.instanceMethod objectInit ∈ AW ∧ Cond.code objectInit ⟨#[0xb1]⟩ 1 none ∈ AW := ⟨(AWi 305 (by decide +kernel) rfl), t_obj⟩
set_option maxRecDepth 100000 in
theorem tc_X3_26 : XCs RX3 26 yJ9_abs_0f7a4 := ⟨(AWi 475 (by decide +kernel) rfl), (AWi 476 (by decide +kernel) rfl)⟩
set_option maxRecDepth 100000 in
theorem tc_X3_18_0 : XCv RX3 18 0 yX3_hasHandLike := ⟨RX0, TX0, 2, rfl, (AWi 454 (by decide +kernel) rfl), Or.inr (Or.inl ⟨yX3_hasHandLike, "ConfessBySize$Man", rfl, (AWi 453 (by decide +kernel) rfl), (AWi 456 (by decide +kernel) rfl), (AWi 457 (by decide +kernel) rfl), by decide +kernel, by decide +kernel, rfl⟩)⟩
set_option maxRecDepth 100000 in
theorem tc_X3_18_2 : XCv RX3 18 2 yX3_hasHandLike := ⟨RX2, TX2, 2, rfl, (AWi 454 (by decide +kernel) rfl), Or.inr (Or.inl ⟨yX3_hasHandLike, "ConfessBySize$Man", rfl, (AWi 453 (by decide +kernel) rfl), (AWi 456 (by decide +kernel) rfl), (AWi 458 (by decide +kernel) rfl), by decide +kernel, by decide +kernel, rfl⟩)⟩
set_option maxRecDepth 100000 in
theorem tc_X3_18_3 : XCv RX3 18 3 yX3_hasHandLike := ⟨RX3, TX3, 2, rfl, (AWi 454 (by decide +kernel) rfl), Or.inl ⟨rfl, (AWi 453 (by decide +kernel) rfl), (AWi 455 (by decide +kernel) rfl)⟩⟩
set_option maxRecDepth 100000 in
theorem tc_X3_18_8 : XCv RX3 18 8 yX3_hasHandLike := ⟨RX8, TX8, 2, rfl, (AWi 454 (by decide +kernel) rfl), Or.inr (Or.inl ⟨yX3_hasHandLike, "ConfessBySize$Man", rfl, (AWi 453 (by decide +kernel) rfl), (AWi 456 (by decide +kernel) rfl), (AWi 459 (by decide +kernel) rfl), by decide +kernel, by decide +kernel, rfl⟩)⟩
set_option maxRecDepth 100000 in
theorem tc_X3_18_9 : XCv RX3 18 9 yX9_hasHandLike := ⟨RX9, TX9, 2, rfl, (AWi 461 (by decide +kernel) rfl), Or.inr (Or.inr ⟨yX3_hasHandLike, "ConfessBySize$Man", cX3_hasHandLike, 2, (some FieldType.boolean), (AWi 453 (by decide +kernel) rfl), (AWi 456 (by decide +kernel) rfl), (AWi 454 (by decide +kernel) rfl), (AWi 460 (by decide +kernel) rfl), (AWi 463 (by decide +kernel) rfl), by decide +kernel, by decide +kernel, rfl⟩)⟩
set_option maxRecDepth 100000 in
theorem tc_X3_22_0 : XCv RX3 22 0 yX3_counted := ⟨RX0, TX0, 2, rfl, (AWi 465 (by decide +kernel) rfl), Or.inr (Or.inl ⟨yX3_counted, "ConfessBySize$Man", rfl, (AWi 464 (by decide +kernel) rfl), (AWi 467 (by decide +kernel) rfl), (AWi 468 (by decide +kernel) rfl), by decide +kernel, by decide +kernel, rfl⟩)⟩
set_option maxRecDepth 100000 in
theorem tc_X3_22_2 : XCv RX3 22 2 yX2_counted := ⟨RX2, TX2, 2, rfl, (AWi 470 (by decide +kernel) rfl), Or.inr (Or.inr ⟨yX3_counted, "ConfessBySize$Man", cX3_counted, 2, (some FieldType.int), (AWi 464 (by decide +kernel) rfl), (AWi 467 (by decide +kernel) rfl), (AWi 465 (by decide +kernel) rfl), (AWi 469 (by decide +kernel) rfl), (AWi 474 (by decide +kernel) rfl), by decide +kernel, by decide +kernel, rfl⟩)⟩
set_option maxRecDepth 100000 in
theorem tc_X3_22_3 : XCv RX3 22 3 yX3_counted := ⟨RX3, TX3, 2, rfl, (AWi 465 (by decide +kernel) rfl), Or.inl ⟨rfl, (AWi 464 (by decide +kernel) rfl), (AWi 466 (by decide +kernel) rfl)⟩⟩
set_option maxRecDepth 100000 in
theorem tc_X3_22_8 : XCv RX3 22 8 yX3_counted := ⟨RX8, TX8, 2, rfl, (AWi 465 (by decide +kernel) rfl), Or.inr (Or.inl ⟨yX3_counted, "ConfessBySize$Man", rfl, (AWi 464 (by decide +kernel) rfl), (AWi 467 (by decide +kernel) rfl), (AWi 472 (by decide +kernel) rfl), by decide +kernel, by decide +kernel, rfl⟩)⟩
set_option maxRecDepth 100000 in
theorem tc_X3_22_9 : XCv RX3 22 9 yX3_counted := ⟨RX9, TX9, 2, rfl, (AWi 465 (by decide +kernel) rfl), Or.inr (Or.inl ⟨yX3_counted, "ConfessBySize$Man", rfl, (AWi 464 (by decide +kernel) rfl), (AWi 467 (by decide +kernel) rfl), (AWi 473 (by decide +kernel) rfl), by decide +kernel, by decide +kernel, rfl⟩)⟩
set_option maxRecDepth 100000 in
theorem tc_X3_31_0 : XCv RX3 31 0 yX0_bears := ⟨RX0, TX0, 2, rfl, (AWi 415 (by decide +kernel) rfl), Or.inr (Or.inr ⟨yX3_bears, "ConfessBySize$Man", cX3_bears, 1, (some FieldType.int), (AWi 478 (by decide +kernel) rfl), (AWi 413 (by decide +kernel) rfl), (AWi 411 (by decide +kernel) rfl), (AWi 414 (by decide +kernel) rfl), (AWi 422 (by decide +kernel) rfl), by decide +kernel, by decide +kernel, rfl⟩)⟩
set_option maxRecDepth 100000 in
theorem tc_X3_31_2 : XCv RX3 31 2 yX3_bears := ⟨RX2, TX2, 2, rfl, (AWi 411 (by decide +kernel) rfl), Or.inr (Or.inl ⟨yX3_bears, "ConfessBySize$Man", rfl, (AWi 478 (by decide +kernel) rfl), (AWi 413 (by decide +kernel) rfl), (AWi 417 (by decide +kernel) rfl), by decide +kernel, by decide +kernel, rfl⟩)⟩
set_option maxRecDepth 100000 in
theorem tc_X3_31_3 : XCv RX3 31 3 yX3_bears := ⟨RX3, TX3, 2, rfl, (AWi 411 (by decide +kernel) rfl), Or.inl ⟨rfl, (AWi 478 (by decide +kernel) rfl), (AWi 412 (by decide +kernel) rfl)⟩⟩
set_option maxRecDepth 100000 in
theorem tc_X3_31_8 : XCv RX3 31 8 yX8_bears := ⟨RX8, TX8, 2, rfl, (AWi 419 (by decide +kernel) rfl), Or.inr (Or.inr ⟨yX3_bears, "ConfessBySize$Man", cX3_bears, 1, (some FieldType.int), (AWi 478 (by decide +kernel) rfl), (AWi 413 (by decide +kernel) rfl), (AWi 411 (by decide +kernel) rfl), (AWi 418 (by decide +kernel) rfl), (AWi 422 (by decide +kernel) rfl), by decide +kernel, by decide +kernel, rfl⟩)⟩
set_option maxRecDepth 100000 in
theorem tc_X3_31_9 : XCv RX3 31 9 yX8_bears := ⟨RX9, TX9, 2, rfl, (AWi 419 (by decide +kernel) rfl), Or.inr (Or.inr ⟨yX3_bears, "ConfessBySize$Man", cX3_bears, 1, (some FieldType.int), (AWi 478 (by decide +kernel) rfl), (AWi 413 (by decide +kernel) rfl), (AWi 411 (by decide +kernel) rfl), (AWi 421 (by decide +kernel) rfl), (AWi 422 (by decide +kernel) rfl), by decide +kernel, by decide +kernel, rfl⟩)⟩
set_option maxRecDepth 100000 in
theorem tc_X4_3 : Cond.methodLink RX4 3 objectInit ∈ AW ∧ Cond.instanceMethod objectInit ∈ AW ∧ Cond.code objectInit ⟨#[0xb1]⟩ 1 none ∈ AW := ⟨(AWi 167 (by decide +kernel) rfl), t_obj⟩
set_option maxRecDepth 100000 in
theorem tc_X4_24 : XCs RX4 24 yJ9_min_7cf53 := ⟨(AWi 606 (by decide +kernel) rfl), (AWi 287 (by decide +kernel) rfl)⟩
set_option maxRecDepth 100000 in
theorem tc_X4_40 : XCs RX4 40 yX4_choose := ⟨(AWi 619 (by decide +kernel) rfl), (AWi 620 (by decide +kernel) rfl)⟩
set_option maxRecDepth 100000 in
theorem tc_X4_44_4 : XCv RX4 44 4 yX4_keepIfBetter := ⟨RX4, TX4, 7, rfl, (AWi 624 (by decide +kernel) rfl), Or.inl ⟨rfl, (AWi 622 (by decide +kernel) rfl), (AWi 13 (by decide +kernel) rfl)⟩⟩
set_option maxRecDepth 100000 in
theorem tc_X5_3 : Cond.methodLink RX5 3 objectInit ∈ AW ∧ Cond.instanceMethod objectInit ∈ AW ∧ Cond.code objectInit ⟨#[0xb1]⟩ 1 none ∈ AW := ⟨(AWi 82 (by decide +kernel) rfl), t_obj⟩
set_option maxRecDepth 100000 in
theorem tc_X5_27 : XCs RX5 27 yX5_isOfPeople := ⟨(AWi 260 (by decide +kernel) rfl), (AWi 261 (by decide +kernel) rfl)⟩
set_option maxRecDepth 100000 in
theorem tc_X5_31 : XCs RX5 31 yX5_isOfCrimes := ⟨(AWi 269 (by decide +kernel) rfl), (AWi 270 (by decide +kernel) rfl)⟩
set_option maxRecDepth 100000 in
theorem tc_X5_37 : XCs RX5 37 yX5_isKindLetter := ⟨(AWi 263 (by decide +kernel) rfl), (AWi 264 (by decide +kernel) rfl)⟩
set_option maxRecDepth 100000 in
theorem tc_X5_41 : XCs RX5 41 yX5_isDigit := ⟨(AWi 266 (by decide +kernel) rfl), (AWi 267 (by decide +kernel) rfl)⟩
set_option maxRecDepth 100000 in
theorem tc_X5_19_5 : XCv RX5 19 5 yX5_codeAt := ⟨RX5, TX5, 2, rfl, (AWi 257 (by decide +kernel) rfl), Or.inl ⟨rfl, (AWi 256 (by decide +kernel) rfl), (AWi 258 (by decide +kernel) rfl)⟩⟩
set_option maxRecDepth 100000 in
theorem tc_X5_23_5 : XCv RX5 23 5 yX5_semicolon := ⟨RX5, TX5, 2, rfl, (AWi 253 (by decide +kernel) rfl), Or.inl ⟨rfl, (AWi 252 (by decide +kernel) rfl), (AWi 254 (by decide +kernel) rfl)⟩⟩
set_option maxRecDepth 100000 in
theorem tc_X5_34_5 : XCv RX5 34 5 yX5_firstFault := ⟨RX5, TX5, 2, rfl, (AWi 249 (by decide +kernel) rfl), Or.inl ⟨rfl, (AWi 280 (by decide +kernel) rfl), (AWi 250 (by decide +kernel) rfl)⟩⟩
set_option maxRecDepth 100000 in
theorem tc_X6_3 : Cond.methodLink RX6 3 objectInit ∈ AW ∧ Cond.instanceMethod objectInit ∈ AW ∧ Cond.code objectInit ⟨#[0xb1]⟩ 1 none ∈ AW := ⟨(AWi 96 (by decide +kernel) rfl), t_obj⟩
set_option maxRecDepth 100000 in
theorem tc_X6_62 : XCi RX6 62 yX8_init := ⟨rfl, (AWi 300 (by decide +kernel) rfl), Or.inl (AWi 299 (by decide +kernel) rfl)⟩
set_option maxRecDepth 100000 in
theorem tc_X6_67 : XCi RX6 67 yX0_init := ⟨rfl, (AWi 318 (by decide +kernel) rfl), Or.inl (AWi 317 (by decide +kernel) rfl)⟩
set_option maxRecDepth 100000 in
theorem tc_X6_70 : XCi RX6 70 yX2_init := ⟨rfl, (AWi 327 (by decide +kernel) rfl), Or.inl (AWi 326 (by decide +kernel) rfl)⟩
set_option maxRecDepth 100000 in
theorem tc_X6_73 : XCi RX6 73 yX9_init := ⟨rfl, (AWi 336 (by decide +kernel) rfl), Or.inl (AWi 335 (by decide +kernel) rfl)⟩
set_option maxRecDepth 100000 in
theorem tc_X6_74 : XCi RX6 74 yX3_init := ⟨rfl, (AWi 303 (by decide +kernel) rfl), Or.inl (AWi 343 (by decide +kernel) rfl)⟩
set_option maxRecDepth 100000 in
theorem tc_X6_75 : XCi RX6 75 yX1_init := ⟨rfl, (AWi 353 (by decide +kernel) rfl), Or.inl (AWi 352 (by decide +kernel) rfl)⟩
set_option maxRecDepth 100000 in
theorem tc_X6_36 : XCs RX6 36 yJ9_min_7cf53 := ⟨(AWi 286 (by decide +kernel) rfl), (AWi 287 (by decide +kernel) rfl)⟩
set_option maxRecDepth 100000 in
theorem tc_X6_42 : XCs RX6 42 yX6_manAt := ⟨(AWi 289 (by decide +kernel) rfl), (AWi 290 (by decide +kernel) rfl)⟩
set_option maxRecDepth 100000 in
theorem tc_X6_49 : XCs RX6 49 yX6_crimeAt := ⟨(AWi 348 (by decide +kernel) rfl), (AWi 349 (by decide +kernel) rfl)⟩
set_option maxRecDepth 100000 in
theorem tc_X6_30_5 : XCv RX6 30 5 yX5_semicolon := ⟨RX5, TX5, 2, rfl, (AWi 253 (by decide +kernel) rfl), Or.inl ⟨rfl, (AWi 285 (by decide +kernel) rfl), (AWi 254 (by decide +kernel) rfl)⟩⟩
set_option maxRecDepth 100000 in
theorem tc_X6_46_5 : XCv RX6 46 5 yX5_length := ⟨RX5, TX5, 2, rfl, (AWi 233 (by decide +kernel) rfl), Or.inl ⟨rfl, (AWi 347 (by decide +kernel) rfl), (AWi 234 (by decide +kernel) rfl)⟩⟩
set_option maxRecDepth 100000 in
theorem tc_X6_53_5 : XCv RX6 53 5 yX5_digitAt := ⟨RX5, TX5, 2, rfl, (AWi 293 (by decide +kernel) rfl), Or.inl ⟨rfl, (AWi 292 (by decide +kernel) rfl), (AWi 294 (by decide +kernel) rfl)⟩⟩
set_option maxRecDepth 100000 in
theorem tc_X6_57_5 : XCv RX6 57 5 yX5_codeAt := ⟨RX5, TX5, 2, rfl, (AWi 257 (by decide +kernel) rfl), Or.inl ⟨rfl, (AWi 296 (by decide +kernel) rfl), (AWi 258 (by decide +kernel) rfl)⟩⟩
set_option maxRecDepth 100000 in
theorem tc_X7_3 : Cond.methodLink RX7 3 objectInit ∈ AW ∧ Cond.instanceMethod objectInit ∈ AW ∧ Cond.code objectInit ⟨#[0xb1]⟩ 1 none ∈ AW := ⟨(AWi 119 (by decide +kernel) rfl), t_obj⟩
set_option maxRecDepth 100000 in
theorem tc_X7_20 : XCi RX7 20 yX10_init := ⟨rfl, (AWi 123 (by decide +kernel) rfl), Or.inr ⟨"ConfessBySize", by decide +kernel⟩⟩
set_option maxRecDepth 100000 in
theorem tc_X7_25_6 : XCv RX7 25 6 yX6_crimeOf := ⟨RX6, TX6, 4, rfl, (AWi 374 (by decide +kernel) rfl), Or.inl ⟨rfl, (AWi 373 (by decide +kernel) rfl), (AWi 375 (by decide +kernel) rfl)⟩⟩
set_option maxRecDepth 100000 in
theorem tc_X7_37_10 : XCv RX7 37 10 yX10_clear := ⟨RX10, TX10, 5, rfl, (AWi 378 (by decide +kernel) rfl), Or.inl ⟨rfl, (AWi 377 (by decide +kernel) rfl), (AWi 379 (by decide +kernel) rfl)⟩⟩
set_option maxRecDepth 100000 in
theorem tc_X7_46_7 : XCv RX7 46 7 yX7_sizeOf := ⟨RX7, TX7, 5, rfl, (AWi 437 (by decide +kernel) rfl), Or.inl ⟨rfl, (AWi 674 (by decide +kernel) rfl), (AWi 438 (by decide +kernel) rfl)⟩⟩
set_option maxRecDepth 100000 in
theorem tc_X7_50_7 : XCv RX7 50 7 yX7_crimeOn := ⟨RX7, TX7, 5, rfl, (AWi 424 (by decide +kernel) rfl), Or.inl ⟨rfl, (AWi 675 (by decide +kernel) rfl), (AWi 425 (by decide +kernel) rfl)⟩⟩
set_option maxRecDepth 100000 in
theorem tc_X7_53_10 : XCv RX7 53 10 yX10_copyFrom := ⟨RX10, TX10, 5, rfl, (AWi 677 (by decide +kernel) rfl), Or.inl ⟨rfl, (AWi 676 (by decide +kernel) rfl), (AWi 678 (by decide +kernel) rfl)⟩⟩
set_option maxRecDepth 100000 in
theorem tc_X8_3 : XCi RX8 3 yX3_init := ⟨rfl, (AWi 303 (by decide +kernel) rfl), Or.inl (AWi 302 (by decide +kernel) rfl)⟩
set_option maxRecDepth 100000 in
theorem tc_X9_3 : XCi RX9 3 yX8_init := ⟨rfl, (AWi 300 (by decide +kernel) rfl), Or.inl (AWi 338 (by decide +kernel) rfl)⟩
