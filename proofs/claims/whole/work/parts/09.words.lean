theorem gf_X0_11 : GF RX0 11 0 7 2 := ⟨by decide, by decide, rfl, uu (i := 323) (by decide +kernel) rfl⟩
theorem gf_X0_19 : GF RX0 19 0 8 2 := ⟨by decide, by decide, rfl, uu (i := 327) (by decide +kernel) rfl⟩
theorem gf_X0_25 : GF RX0 25 0 9 2 := ⟨by decide, by decide, rfl, uu (i := 331) (by decide +kernel) rfl⟩
theorem gf_X0_31 : GF RX0 31 0 10 2 := ⟨by decide, by decide, rfl, uu (i := 333) (by decide +kernel) rfl⟩
theorem gf_X0_35 : GF RX0 35 0 11 2 := ⟨by decide, by decide, rfl, uu (i := 337) (by decide +kernel) rfl⟩
theorem gf_X0_39 : GF RX0 39 0 12 2 := ⟨by decide, by decide, rfl, uu (i := 340) (by decide +kernel) rfl⟩
theorem gf_X0_42 : GF RX0 42 0 13 2 := ⟨by decide, by decide, rfl, uu (i := 343) (by decide +kernel) rfl⟩
theorem gf_X0_48 : GF RX0 48 0 14 2 := ⟨by decide, by decide, rfl, uu (i := 346) (by decide +kernel) rfl⟩
theorem gf_X0_56 : GF RX0 56 0 0 0 := ⟨by decide, by decide, rfl, uu (i := 295) (by decide +kernel) rfl⟩
theorem gf_X0_60 : GF RX0 60 0 1 0 := ⟨by decide, by decide, rfl, uu (i := 299) (by decide +kernel) rfl⟩
theorem gf_X0_63 : GF RX0 63 0 2 0 := ⟨by decide, by decide, rfl, uu (i := 302) (by decide +kernel) rfl⟩
theorem gf_X0_66 : GF RX0 66 0 3 0 := ⟨by decide, by decide, rfl, uu (i := 307) (by decide +kernel) rfl⟩
theorem gf_X0_69 : GF RX0 69 0 4 0 := ⟨by decide, by decide, rfl, uu (i := 312) (by decide +kernel) rfl⟩
theorem gf_X0_72 : GF RX0 72 0 5 0 := ⟨by decide, by decide, rfl, uu (i := 315) (by decide +kernel) rfl⟩
theorem gf_X0_75 : GF RX0 75 0 6 0 := ⟨by decide, by decide, rfl, uu (i := 319) (by decide +kernel) rfl⟩
theorem gf_X0_102 : GF RX0 102 6 1 0 := ⟨by decide, by decide, rfl, uu (i := 241) (by decide +kernel) rfl⟩
theorem gf_X0_111 : GF RX0 111 6 0 0 := ⟨by decide, by decide, rfl, uu (i := 239) (by decide +kernel) rfl⟩
theorem gf_X0_114 : GF RX0 114 6 2 0 := ⟨by decide, by decide, rfl, uu (i := 244) (by decide +kernel) rfl⟩
theorem gf_X0_138 : GF RX0 138 3 2 0 := ⟨by decide, by decide, rfl, uu (i := 191) (by decide +kernel) rfl⟩
theorem gf_X0_157 : GF RX0 157 6 4 0 := ⟨by decide, by decide, rfl, uu (i := 250) (by decide +kernel) rfl⟩
theorem gf_X0_160 : GF RX0 160 6 3 0 := ⟨by decide, by decide, rfl, uu (i := 247) (by decide +kernel) rfl⟩
theorem gf_X0_163 : GF RX0 163 6 5 0 := ⟨by decide, by decide, rfl, uu (i := 252) (by decide +kernel) rfl⟩
theorem gf_X0_179 : GF RX0 179 4 1 0 := ⟨by decide, by decide, rfl, uu (i := 210) (by decide +kernel) rfl⟩
theorem gf_X1_13 : GF RX1 13 1 0 2 := ⟨by decide, by decide, rfl, uu (i := 533) (by decide +kernel) rfl⟩
theorem gf_X1_17 : GF RX1 17 1 4 2 := ⟨by decide, by decide, rfl, uu (i := 539) (by decide +kernel) rfl⟩
theorem gf_X1_21 : GF RX1 21 1 1 0 := ⟨by decide, by decide, rfl, uu (i := 534) (by decide +kernel) rfl⟩
theorem gf_X1_29 : GF RX1 29 1 2 0 := ⟨by decide, by decide, rfl, uu (i := 535) (by decide +kernel) rfl⟩
theorem gf_X1_32 : GF RX1 32 1 3 0 := ⟨by decide, by decide, rfl, uu (i := 537) (by decide +kernel) rfl⟩
theorem gf_X1_35 : GF RX1 35 1 5 0 := ⟨by decide, by decide, rfl, uu (i := 541) (by decide +kernel) rfl⟩
theorem gf_X10_9 : GF RX10 9 10 3 2 := ⟨by decide, by decide, rfl, uu (i := 588) (by decide +kernel) rfl⟩
theorem gf_X10_15 : GF RX10 15 10 4 2 := ⟨by decide, by decide, rfl, uu (i := 589) (by decide +kernel) rfl⟩
theorem gf_X10_18 : GF RX10 18 10 5 2 := ⟨by decide, by decide, rfl, uu (i := 590) (by decide +kernel) rfl⟩
theorem gf_X10_21 : GF RX10 21 10 6 2 := ⟨by decide, by decide, rfl, uu (i := 591) (by decide +kernel) rfl⟩
theorem gf_X10_24 : GF RX10 24 10 7 2 := ⟨by decide, by decide, rfl, uu (i := 592) (by decide +kernel) rfl⟩
theorem gf_X10_28 : GF RX10 28 10 8 2 := ⟨by decide, by decide, rfl, uu (i := 593) (by decide +kernel) rfl⟩
theorem gf_X10_31 : GF RX10 31 10 0 2 := ⟨by decide, by decide, rfl, uu (i := 584) (by decide +kernel) rfl⟩
theorem gf_X10_39 : GF RX10 39 10 1 0 := ⟨by decide, by decide, rfl, uu (i := 585) (by decide +kernel) rfl⟩
theorem gf_X10_43 : GF RX10 43 0 5 0 := ⟨by decide, by decide, rfl, uu (i := 316) (by decide +kernel) rfl⟩
theorem gf_X10_48 : GF RX10 48 10 2 0 := ⟨by decide, by decide, rfl, uu (i := 587) (by decide +kernel) rfl⟩
theorem gf_X10_65 : GF RX10 65 0 2 0 := ⟨by decide, by decide, rfl, uu (i := 304) (by decide +kernel) rfl⟩
theorem gf_X10_77 : GF RX10 77 0 10 2 := ⟨by decide, by decide, rfl, uu (i := 334) (by decide +kernel) rfl⟩
theorem gf_X10_81 : GF RX10 81 8 1 0 := ⟨by decide, by decide, rfl, uu (i := 276) (by decide +kernel) rfl⟩
theorem gf_X10_90 : GF RX10 90 0 3 0 := ⟨by decide, by decide, rfl, uu (i := 309) (by decide +kernel) rfl⟩
theorem gf_X10_93 : GF RX10 93 0 8 2 := ⟨by decide, by decide, rfl, uu (i := 328) (by decide +kernel) rfl⟩
theorem gf_X10_111 : GF RX10 111 0 7 2 := ⟨by decide, by decide, rfl, uu (i := 324) (by decide +kernel) rfl⟩
theorem gf_X10_115 : GF RX10 115 8 0 0 := ⟨by decide, by decide, rfl, uu (i := 272) (by decide +kernel) rfl⟩
theorem gf_X10_118 : GF RX10 118 3 0 0 := ⟨by decide, by decide, rfl, uu (i := 184) (by decide +kernel) rfl⟩
theorem gf_X10_139 : GF RX10 139 0 0 0 := ⟨by decide, by decide, rfl, uu (i := 297) (by decide +kernel) rfl⟩
theorem gf_X10_150 : GF RX10 150 0 6 0 := ⟨by decide, by decide, rfl, uu (i := 321) (by decide +kernel) rfl⟩
theorem gf_X10_153 : GF RX10 153 0 11 2 := ⟨by decide, by decide, rfl, uu (i := 338) (by decide +kernel) rfl⟩
theorem gf_X10_156 : GF RX10 156 0 12 2 := ⟨by decide, by decide, rfl, uu (i := 341) (by decide +kernel) rfl⟩
theorem gf_X10_159 : GF RX10 159 0 13 2 := ⟨by decide, by decide, rfl, uu (i := 344) (by decide +kernel) rfl⟩
theorem gf_X11_9 : GF RX11 9 11 0 2 := ⟨by decide, by decide, rfl, uu (i := 614) (by decide +kernel) rfl⟩
theorem gf_X11_13 : GF RX11 13 11 1 0 := ⟨by decide, by decide, rfl, uu (i := 615) (by decide +kernel) rfl⟩
theorem gf_X11_17 : GF RX11 17 11 2 0 := ⟨by decide, by decide, rfl, uu (i := 616) (by decide +kernel) rfl⟩
theorem gf_X11_20 : GF RX11 20 11 3 0 := ⟨by decide, by decide, rfl, uu (i := 617) (by decide +kernel) rfl⟩
theorem gf_X11_23 : GF RX11 23 11 4 0 := ⟨by decide, by decide, rfl, uu (i := 618) (by decide +kernel) rfl⟩
theorem gf_X11_29 : GF RX11 29 11 5 2 := ⟨by decide, by decide, rfl, uu (i := 619) (by decide +kernel) rfl⟩
theorem gf_X11_33 : GF RX11 33 11 6 2 := ⟨by decide, by decide, rfl, uu (i := 620) (by decide +kernel) rfl⟩
theorem gf_X11_39 : GF RX11 39 11 7 2 := ⟨by decide, by decide, rfl, uu (i := 621) (by decide +kernel) rfl⟩
theorem gf_X11_46 : GF RX11 46 11 8 2 := ⟨by decide, by decide, rfl, uu (i := 622) (by decide +kernel) rfl⟩
theorem gf_X11_53 : GF RX11 53 11 9 2 := ⟨by decide, by decide, rfl, uu (i := 623) (by decide +kernel) rfl⟩
theorem gf_X11_60 : GF RX11 60 11 10 2 := ⟨by decide, by decide, rfl, uu (i := 624) (by decide +kernel) rfl⟩
theorem gf_X11_76 : GF RX11 76 7 0 0 := ⟨by decide, by decide, rfl, uu (i := 491) (by decide +kernel) rfl⟩
theorem gf_X11_77 : GF RX11 77 7 1 0 := ⟨by decide, by decide, rfl, uu (i := 493) (by decide +kernel) rfl⟩
theorem gf_X11_85 : GF RX11 85 0 14 2 := ⟨by decide, by decide, rfl, uu (i := 347) (by decide +kernel) rfl⟩
theorem gf_X11_93 : GF RX11 93 0 2 0 := ⟨by decide, by decide, rfl, uu (i := 305) (by decide +kernel) rfl⟩
theorem gf_X11_154 : GF RX11 154 0 0 0 := ⟨by decide, by decide, rfl, uu (i := 298) (by decide +kernel) rfl⟩
theorem gf_X11_203 : GF RX11 203 10 1 0 := ⟨by decide, by decide, rfl, uu (i := 586) (by decide +kernel) rfl⟩
theorem gf_X11_209 : GF RX11 209 0 10 2 := ⟨by decide, by decide, rfl, uu (i := 336) (by decide +kernel) rfl⟩
theorem gf_X11_213 : GF RX11 213 8 0 0 := ⟨by decide, by decide, rfl, uu (i := 274) (by decide +kernel) rfl⟩
theorem gf_X11_218 : GF RX11 218 0 8 2 := ⟨by decide, by decide, rfl, uu (i := 330) (by decide +kernel) rfl⟩
theorem gf_X11_280 : GF RX11 280 1 5 0 := ⟨by decide, by decide, rfl, uu (i := 542) (by decide +kernel) rfl⟩
theorem gf_X11_286 : GF RX11 286 1 4 2 := ⟨by decide, by decide, rfl, uu (i := 540) (by decide +kernel) rfl⟩
theorem gf_X11_290 : GF RX11 290 2 0 0 := ⟨by decide, by decide, rfl, uu (i := 166) (by decide +kernel) rfl⟩
theorem gf_X11_299 : GF RX11 299 0 7 2 := ⟨by decide, by decide, rfl, uu (i := 326) (by decide +kernel) rfl⟩
theorem gf_X11_303 : GF RX11 303 3 0 0 := ⟨by decide, by decide, rfl, uu (i := 186) (by decide +kernel) rfl⟩
theorem gf_X11_308 : GF RX11 308 3 1 0 := ⟨by decide, by decide, rfl, uu (i := 189) (by decide +kernel) rfl⟩
theorem gf_X11_311 : GF RX11 311 4 0 0 := ⟨by decide, by decide, rfl, uu (i := 207) (by decide +kernel) rfl⟩
theorem gf_X11_314 : GF RX11 314 4 1 0 := ⟨by decide, by decide, rfl, uu (i := 211) (by decide +kernel) rfl⟩
theorem gf_X11_317 : GF RX11 317 4 2 0 := ⟨by decide, by decide, rfl, uu (i := 214) (by decide +kernel) rfl⟩
theorem gf_X11_321 : GF RX11 321 4 3 0 := ⟨by decide, by decide, rfl, uu (i := 217) (by decide +kernel) rfl⟩
theorem gf_X11_324 : GF RX11 324 4 4 0 := ⟨by decide, by decide, rfl, uu (i := 220) (by decide +kernel) rfl⟩
theorem gf_X11_330 : GF RX11 330 0 3 0 := ⟨by decide, by decide, rfl, uu (i := 311) (by decide +kernel) rfl⟩
theorem gf_X11_333 : GF RX11 333 0 1 0 := ⟨by decide, by decide, rfl, uu (i := 301) (by decide +kernel) rfl⟩
theorem gf_X11_336 : GF RX11 336 0 4 0 := ⟨by decide, by decide, rfl, uu (i := 314) (by decide +kernel) rfl⟩
theorem gf_X11_339 : GF RX11 339 0 5 0 := ⟨by decide, by decide, rfl, uu (i := 318) (by decide +kernel) rfl⟩
theorem gf_X11_342 : GF RX11 342 0 6 0 := ⟨by decide, by decide, rfl, uu (i := 322) (by decide +kernel) rfl⟩
theorem gf_X11_345 : GF RX11 345 1 2 0 := ⟨by decide, by decide, rfl, uu (i := 536) (by decide +kernel) rfl⟩
theorem gf_X11_348 : GF RX11 348 1 3 0 := ⟨by decide, by decide, rfl, uu (i := 538) (by decide +kernel) rfl⟩
theorem gf_X12_7 : GF RX12 7 12 1 2 := ⟨by decide, by decide, rfl, uu (i := 1420) (by decide +kernel) rfl⟩
theorem gf_X12_13 : GF RX12 13 12 10 0 := ⟨by decide, by decide, rfl, uu (i := 1429) (by decide +kernel) rfl⟩
theorem gf_X12_17 : GF RX12 17 12 12 2 := ⟨by decide, by decide, rfl, uu (i := 1431) (by decide +kernel) rfl⟩
theorem gf_X12_20 : GF RX12 20 12 15 2 := ⟨by decide, by decide, rfl, uu (i := 1434) (by decide +kernel) rfl⟩
theorem gf_X12_23 : GF RX12 23 12 16 2 := ⟨by decide, by decide, rfl, uu (i := 1435) (by decide +kernel) rfl⟩
theorem gf_X12_26 : GF RX12 26 12 17 2 := ⟨by decide, by decide, rfl, uu (i := 1436) (by decide +kernel) rfl⟩
theorem gf_X12_29 : GF RX12 29 12 18 2 := ⟨by decide, by decide, rfl, uu (i := 1437) (by decide +kernel) rfl⟩
theorem gf_X12_32 : GF RX12 32 12 19 2 := ⟨by decide, by decide, rfl, uu (i := 1438) (by decide +kernel) rfl⟩
theorem gf_X12_35 : GF RX12 35 12 20 2 := ⟨by decide, by decide, rfl, uu (i := 1439) (by decide +kernel) rfl⟩
theorem gf_X12_38 : GF RX12 38 12 21 2 := ⟨by decide, by decide, rfl, uu (i := 1440) (by decide +kernel) rfl⟩
theorem gf_X12_41 : GF RX12 41 12 22 2 := ⟨by decide, by decide, rfl, uu (i := 1441) (by decide +kernel) rfl⟩
theorem gf_X12_44 : GF RX12 44 12 26 2 := ⟨by decide, by decide, rfl, uu (i := 1445) (by decide +kernel) rfl⟩
theorem gf_X12_47 : GF RX12 47 12 27 2 := ⟨by decide, by decide, rfl, uu (i := 1446) (by decide +kernel) rfl⟩
theorem gf_X12_50 : GF RX12 50 12 32 2 := ⟨by decide, by decide, rfl, uu (i := 1451) (by decide +kernel) rfl⟩
theorem gf_X12_54 : GF RX12 54 12 0 0 := ⟨by decide, by decide, rfl, uu (i := 1419) (by decide +kernel) rfl⟩
theorem gf_X12_57 : GF RX12 57 12 11 0 := ⟨by decide, by decide, rfl, uu (i := 1430) (by decide +kernel) rfl⟩
theorem gf_X12_60 : GF RX12 60 12 2 0 := ⟨by decide, by decide, rfl, uu (i := 1421) (by decide +kernel) rfl⟩
theorem gf_X12_63 : GF RX12 63 12 3 0 := ⟨by decide, by decide, rfl, uu (i := 1422) (by decide +kernel) rfl⟩
theorem gf_X12_66 : GF RX12 66 12 5 0 := ⟨by decide, by decide, rfl, uu (i := 1424) (by decide +kernel) rfl⟩
theorem gf_X12_73 : GF RX12 73 12 4 0 := ⟨by decide, by decide, rfl, uu (i := 1423) (by decide +kernel) rfl⟩
theorem gf_X12_76 : GF RX12 76 12 8 0 := ⟨by decide, by decide, rfl, uu (i := 1427) (by decide +kernel) rfl⟩
theorem gf_X12_79 : GF RX12 79 12 7 0 := ⟨by decide, by decide, rfl, uu (i := 1426) (by decide +kernel) rfl⟩
theorem gf_X12_82 : GF RX12 82 12 6 0 := ⟨by decide, by decide, rfl, uu (i := 1425) (by decide +kernel) rfl⟩
theorem gf_X12_92 : GF RX12 92 12 13 0 := ⟨by decide, by decide, rfl, uu (i := 1432) (by decide +kernel) rfl⟩
theorem gf_X12_96 : GF RX12 96 12 9 0 := ⟨by decide, by decide, rfl, uu (i := 1428) (by decide +kernel) rfl⟩
theorem gf_X12_186 : GF RX12 186 12 14 0 := ⟨by decide, by decide, rfl, uu (i := 1433) (by decide +kernel) rfl⟩
theorem gf_X12_189 : GF RX12 189 12 23 0 := ⟨by decide, by decide, rfl, uu (i := 1442) (by decide +kernel) rfl⟩
theorem gf_X12_192 : GF RX12 192 12 24 0 := ⟨by decide, by decide, rfl, uu (i := 1443) (by decide +kernel) rfl⟩
theorem gf_X12_195 : GF RX12 195 12 25 0 := ⟨by decide, by decide, rfl, uu (i := 1444) (by decide +kernel) rfl⟩
theorem gf_X12_365 : GF RX12 365 12 28 0 := ⟨by decide, by decide, rfl, uu (i := 1447) (by decide +kernel) rfl⟩
theorem gf_X12_368 : GF RX12 368 12 29 0 := ⟨by decide, by decide, rfl, uu (i := 1448) (by decide +kernel) rfl⟩
theorem gf_X12_371 : GF RX12 371 12 30 0 := ⟨by decide, by decide, rfl, uu (i := 1449) (by decide +kernel) rfl⟩
theorem gf_X12_374 : GF RX12 374 12 31 0 := ⟨by decide, by decide, rfl, uu (i := 1450) (by decide +kernel) rfl⟩
theorem gf_X2_9 : GF RX2 9 2 1 2 := ⟨by decide, by decide, rfl, uu (i := 167) (by decide +kernel) rfl⟩
theorem gf_X2_15 : GF RX2 15 2 2 2 := ⟨by decide, by decide, rfl, uu (i := 168) (by decide +kernel) rfl⟩
theorem gf_X2_18 : GF RX2 18 2 0 0 := ⟨by decide, by decide, rfl, uu (i := 164) (by decide +kernel) rfl⟩
theorem gf_X3_9 : GF RX3 9 3 1 0 := ⟨by decide, by decide, rfl, uu (i := 187) (by decide +kernel) rfl⟩
theorem gf_X3_15 : GF RX3 15 4 0 0 := ⟨by decide, by decide, rfl, uu (i := 204) (by decide +kernel) rfl⟩
theorem gf_X3_24 : GF RX3 24 3 0 0 := ⟨by decide, by decide, rfl, uu (i := 183) (by decide +kernel) rfl⟩
theorem gf_X3_27 : GF RX3 27 4 2 0 := ⟨by decide, by decide, rfl, uu (i := 212) (by decide +kernel) rfl⟩
theorem gf_X3_31 : GF RX3 31 4 1 0 := ⟨by decide, by decide, rfl, uu (i := 208) (by decide +kernel) rfl⟩
theorem gf_X4_7 : GF RX4 7 4 4 0 := ⟨by decide, by decide, rfl, uu (i := 218) (by decide +kernel) rfl⟩
theorem gf_X5_9 : GF RX5 9 5 1 2 := ⟨by decide, by decide, rfl, uu (i := 563) (by decide +kernel) rfl⟩
theorem gf_X5_15 : GF RX5 15 5 2 2 := ⟨by decide, by decide, rfl, uu (i := 564) (by decide +kernel) rfl⟩
theorem gf_X5_18 : GF RX5 18 5 3 2 := ⟨by decide, by decide, rfl, uu (i := 565) (by decide +kernel) rfl⟩
theorem gf_X5_21 : GF RX5 21 5 4 2 := ⟨by decide, by decide, rfl, uu (i := 566) (by decide +kernel) rfl⟩
theorem gf_X5_24 : GF RX5 24 5 0 2 := ⟨by decide, by decide, rfl, uu (i := 562) (by decide +kernel) rfl⟩
theorem gf_X5_28 : GF RX5 28 0 2 0 := ⟨by decide, by decide, rfl, uu (i := 303) (by decide +kernel) rfl⟩
theorem gf_X5_52 : GF RX5 52 0 3 0 := ⟨by decide, by decide, rfl, uu (i := 308) (by decide +kernel) rfl⟩
theorem gf_X6_7 : GF RX6 7 6 0 0 := ⟨by decide, by decide, rfl, uu (i := 237) (by decide +kernel) rfl⟩
theorem gf_X6_13 : GF RX6 13 6 2 0 := ⟨by decide, by decide, rfl, uu (i := 242) (by decide +kernel) rfl⟩
theorem gf_X6_16 : GF RX6 16 6 3 0 := ⟨by decide, by decide, rfl, uu (i := 245) (by decide +kernel) rfl⟩
theorem gf_X6_19 : GF RX6 19 6 4 0 := ⟨by decide, by decide, rfl, uu (i := 248) (by decide +kernel) rfl⟩
theorem gf_X7_14 : GF RX7 14 7 3 2 := ⟨by decide, by decide, rfl, uu (i := 495) (by decide +kernel) rfl⟩
theorem gf_X7_18 : GF RX7 18 7 4 2 := ⟨by decide, by decide, rfl, uu (i := 496) (by decide +kernel) rfl⟩
theorem gf_X7_22 : GF RX7 22 7 5 2 := ⟨by decide, by decide, rfl, uu (i := 497) (by decide +kernel) rfl⟩
theorem gf_X7_26 : GF RX7 26 7 6 2 := ⟨by decide, by decide, rfl, uu (i := 498) (by decide +kernel) rfl⟩
theorem gf_X7_59 : GF RX7 59 7 7 0 := ⟨by decide, by decide, rfl, uu (i := 499) (by decide +kernel) rfl⟩
theorem gf_X7_67 : GF RX7 67 7 0 0 := ⟨by decide, by decide, rfl, uu (i := 490) (by decide +kernel) rfl⟩
theorem gf_X7_70 : GF RX7 70 7 1 0 := ⟨by decide, by decide, rfl, uu (i := 492) (by decide +kernel) rfl⟩
theorem gf_X7_73 : GF RX7 73 7 2 2 := ⟨by decide, by decide, rfl, uu (i := 494) (by decide +kernel) rfl⟩
theorem gf_X7_82 : GF RX7 82 7 8 0 := ⟨by decide, by decide, rfl, uu (i := 500) (by decide +kernel) rfl⟩
theorem gf_X7_96 : GF RX7 96 9 3 0 := ⟨by decide, by decide, rfl, uu (i := 395) (by decide +kernel) rfl⟩
theorem gf_X7_106 : GF RX7 106 0 0 0 := ⟨by decide, by decide, rfl, uu (i := 296) (by decide +kernel) rfl⟩
theorem gf_X7_109 : GF RX7 109 0 2 0 := ⟨by decide, by decide, rfl, uu (i := 306) (by decide +kernel) rfl⟩
theorem gf_X7_112 : GF RX7 112 0 3 0 := ⟨by decide, by decide, rfl, uu (i := 310) (by decide +kernel) rfl⟩
theorem gf_X7_154 : GF RX7 154 7 9 0 := ⟨by decide, by decide, rfl, uu (i := 501) (by decide +kernel) rfl⟩
theorem gf_X7_157 : GF RX7 157 0 1 0 := ⟨by decide, by decide, rfl, uu (i := 300) (by decide +kernel) rfl⟩
theorem gf_X7_167 : GF RX7 167 0 7 2 := ⟨by decide, by decide, rfl, uu (i := 325) (by decide +kernel) rfl⟩
theorem gf_X7_174 : GF RX7 174 3 0 0 := ⟨by decide, by decide, rfl, uu (i := 185) (by decide +kernel) rfl⟩
theorem gf_X7_179 : GF RX7 179 3 1 0 := ⟨by decide, by decide, rfl, uu (i := 188) (by decide +kernel) rfl⟩
theorem gf_X7_183 : GF RX7 183 3 2 0 := ⟨by decide, by decide, rfl, uu (i := 190) (by decide +kernel) rfl⟩
theorem gf_X7_185 : GF RX7 185 0 8 2 := ⟨by decide, by decide, rfl, uu (i := 329) (by decide +kernel) rfl⟩
theorem gf_X7_189 : GF RX7 189 4 0 0 := ⟨by decide, by decide, rfl, uu (i := 206) (by decide +kernel) rfl⟩
theorem gf_X7_194 : GF RX7 194 4 1 0 := ⟨by decide, by decide, rfl, uu (i := 209) (by decide +kernel) rfl⟩
theorem gf_X7_196 : GF RX7 196 4 2 0 := ⟨by decide, by decide, rfl, uu (i := 213) (by decide +kernel) rfl⟩
theorem gf_X7_202 : GF RX7 202 4 3 0 := ⟨by decide, by decide, rfl, uu (i := 216) (by decide +kernel) rfl⟩
theorem gf_X7_204 : GF RX7 204 4 4 0 := ⟨by decide, by decide, rfl, uu (i := 219) (by decide +kernel) rfl⟩
theorem gf_X7_217 : GF RX7 217 0 4 0 := ⟨by decide, by decide, rfl, uu (i := 313) (by decide +kernel) rfl⟩
theorem gf_X7_223 : GF RX7 223 0 9 2 := ⟨by decide, by decide, rfl, uu (i := 332) (by decide +kernel) rfl⟩
theorem gf_X7_227 : GF RX7 227 6 0 0 := ⟨by decide, by decide, rfl, uu (i := 238) (by decide +kernel) rfl⟩
theorem gf_X7_231 : GF RX7 231 6 1 0 := ⟨by decide, by decide, rfl, uu (i := 240) (by decide +kernel) rfl⟩
theorem gf_X7_235 : GF RX7 235 6 2 0 := ⟨by decide, by decide, rfl, uu (i := 243) (by decide +kernel) rfl⟩
theorem gf_X7_240 : GF RX7 240 6 3 0 := ⟨by decide, by decide, rfl, uu (i := 246) (by decide +kernel) rfl⟩
theorem gf_X7_244 : GF RX7 244 6 4 0 := ⟨by decide, by decide, rfl, uu (i := 249) (by decide +kernel) rfl⟩
theorem gf_X7_248 : GF RX7 248 6 5 0 := ⟨by decide, by decide, rfl, uu (i := 251) (by decide +kernel) rfl⟩
theorem gf_X7_250 : GF RX7 250 0 14 2 := ⟨by decide, by decide, rfl, uu (i := 348) (by decide +kernel) rfl⟩
theorem gf_X7_254 : GF RX7 254 2 0 0 := ⟨by decide, by decide, rfl, uu (i := 165) (by decide +kernel) rfl⟩
theorem gf_X7_276 : GF RX7 276 0 5 0 := ⟨by decide, by decide, rfl, uu (i := 317) (by decide +kernel) rfl⟩
theorem gf_X7_279 : GF RX7 279 0 10 2 := ⟨by decide, by decide, rfl, uu (i := 335) (by decide +kernel) rfl⟩
theorem gf_X7_283 : GF RX7 283 8 0 0 := ⟨by decide, by decide, rfl, uu (i := 273) (by decide +kernel) rfl⟩
theorem gf_X7_286 : GF RX7 286 8 1 0 := ⟨by decide, by decide, rfl, uu (i := 277) (by decide +kernel) rfl⟩
theorem gf_X7_289 : GF RX7 289 8 2 0 := ⟨by decide, by decide, rfl, uu (i := 279) (by decide +kernel) rfl⟩
theorem gf_X7_291 : GF RX7 291 8 3 0 := ⟨by decide, by decide, rfl, uu (i := 281) (by decide +kernel) rfl⟩
theorem gf_X7_292 : GF RX7 292 8 4 0 := ⟨by decide, by decide, rfl, uu (i := 283) (by decide +kernel) rfl⟩
theorem gf_X7_293 : GF RX7 293 0 6 0 := ⟨by decide, by decide, rfl, uu (i := 320) (by decide +kernel) rfl⟩
theorem gf_X7_296 : GF RX7 296 0 11 2 := ⟨by decide, by decide, rfl, uu (i := 339) (by decide +kernel) rfl⟩
theorem gf_X7_299 : GF RX7 299 0 12 2 := ⟨by decide, by decide, rfl, uu (i := 342) (by decide +kernel) rfl⟩
theorem gf_X7_302 : GF RX7 302 0 13 2 := ⟨by decide, by decide, rfl, uu (i := 345) (by decide +kernel) rfl⟩
theorem gf_X7_312 : GF RX7 312 9 6 0 := ⟨by decide, by decide, rfl, uu (i := 402) (by decide +kernel) rfl⟩
theorem gf_X7_330 : GF RX7 330 9 7 1 := ⟨by decide, by decide, rfl, uu (i := 404) (by decide +kernel) rfl⟩
theorem gf_X7_334 : GF RX7 334 9 4 0 := ⟨by decide, by decide, rfl, uu (i := 398) (by decide +kernel) rfl⟩
theorem gf_X7_337 : GF RX7 337 9 5 0 := ⟨by decide, by decide, rfl, uu (i := 400) (by decide +kernel) rfl⟩
theorem gf_X8_7 : GF RX8 7 8 3 0 := ⟨by decide, by decide, rfl, uu (i := 280) (by decide +kernel) rfl⟩
theorem gf_X8_13 : GF RX8 13 4 0 0 := ⟨by decide, by decide, rfl, uu (i := 205) (by decide +kernel) rfl⟩
theorem gf_X8_22 : GF RX8 22 8 4 0 := ⟨by decide, by decide, rfl, uu (i := 282) (by decide +kernel) rfl⟩
theorem gf_X8_25 : GF RX8 25 4 3 0 := ⟨by decide, by decide, rfl, uu (i := 215) (by decide +kernel) rfl⟩
theorem gf_X8_26 : GF RX8 26 8 0 0 := ⟨by decide, by decide, rfl, uu (i := 271) (by decide +kernel) rfl⟩
theorem gf_X8_29 : GF RX8 29 8 1 0 := ⟨by decide, by decide, rfl, uu (i := 275) (by decide +kernel) rfl⟩
theorem gf_X8_32 : GF RX8 32 8 2 0 := ⟨by decide, by decide, rfl, uu (i := 278) (by decide +kernel) rfl⟩
theorem gf_X9_7 : GF RX9 7 9 0 2 := ⟨by decide, by decide, rfl, uu (i := 392) (by decide +kernel) rfl⟩
theorem gf_X9_19 : GF RX9 19 9 1 0 := ⟨by decide, by decide, rfl, uu (i := 393) (by decide +kernel) rfl⟩
theorem gf_X9_23 : GF RX9 23 9 2 0 := ⟨by decide, by decide, rfl, uu (i := 394) (by decide +kernel) rfl⟩
theorem gf_X9_26 : GF RX9 26 9 4 0 := ⟨by decide, by decide, rfl, uu (i := 397) (by decide +kernel) rfl⟩
theorem gf_X9_29 : GF RX9 29 9 5 0 := ⟨by decide, by decide, rfl, uu (i := 399) (by decide +kernel) rfl⟩
theorem gf_X9_32 : GF RX9 32 9 3 0 := ⟨by decide, by decide, rfl, uu (i := 396) (by decide +kernel) rfl⟩
theorem gf_X9_41 : GF RX9 41 9 7 1 := ⟨by decide, by decide, rfl, uu (i := 403) (by decide +kernel) rfl⟩
theorem gf_X9_54 : GF RX9 54 9 6 0 := ⟨by decide, by decide, rfl, uu (i := 401) (by decide +kernel) rfl⟩
theorem ml_J0_335 : Cond.methodLink RJ0 335 yJ0_coder_7d493 ∈ UU := uu (i := 434) (by decide +kernel) rfl
theorem ml_J0_492 : Cond.methodLink RJ0 492 yJ0_isLatin1_aae02 ∈ UU := uu (i := 444) (by decide +kernel) rfl
theorem ml_J0_495 : Cond.methodLink RJ0 495 yJ1_charAt_3b067 ∈ UU := uu (i := 448) (by decide +kernel) rfl
theorem ml_J0_498 : Cond.methodLink RJ0 498 yJ2_charAt_3b067 ∈ UU := uu (i := 459) (by decide +kernel) rfl
theorem ml_J0_1059 : Cond.methodLink RJ0 1059 yJ3_checkIndex_8e157 ∈ UU := uu (i := 456) (by decide +kernel) rfl
theorem ml_J1_9 : Cond.methodLink RJ1 9 yJ0_checkIndex_df160 ∈ UU := uu (i := 451) (by decide +kernel) rfl
theorem ml_J2_48 : Cond.methodLink RJ2 48 yJ2_length_9d52b ∈ UU := uu (i := 465) (by decide +kernel) rfl
theorem ml_J2_67 : Cond.methodLink RJ2 67 yJ2_checkIndex_2214a ∈ UU := uu (i := 462) (by decide +kernel) rfl
theorem ml_J2_71 : Cond.methodLink RJ2 71 yJ2_getChar_3b067 ∈ UU := uu (i := 469) (by decide +kernel) rfl
theorem ml_J2_414 : Cond.methodLink RJ2 414 yJ0_checkIndex_df160 ∈ UU := uu (i := 468) (by decide +kernel) rfl
theorem ml_J7_13 : Cond.methodLink RJ7 13 yJ7_rangeCheck_23922 ∈ UU := uu (i := 1058) (by decide +kernel) rfl
theorem ml_L_7 : Cond.methodLink RL 7 yX11_led ∈ UU := uu (i := 1348) (by decide +kernel) rfl
theorem ml_L_15 : Cond.methodLink RL 15 yX11_init ∈ UU := uu (i := 138) (by decide +kernel) rfl
theorem ml_L_18 : Cond.methodLink RL 18 yX12_init ∈ UU := uu (i := 1415) (by decide +kernel) rfl
theorem ml_L_19 : Cond.methodLink RL 19 yX11_feed ∈ UU := uu (i := 648) (by decide +kernel) rfl
theorem ml_L_23 : Cond.methodLink RL 23 yX12_feed ∈ UU := uu (i := 1523) (by decide +kernel) rfl
theorem ml_L_24 : Cond.methodLink RL 24 yX11_book ∈ UU := uu (i := 656) (by decide +kernel) rfl
theorem ml_L_28 : Cond.methodLink RL 28 yX12_book ∈ UU := uu (i := 1527) (by decide +kernel) rfl
theorem ml_L_29 : Cond.methodLink RL 29 yX11_fault ∈ UU := uu (i := 895) (by decide +kernel) rfl
theorem ml_L_33 : Cond.methodLink RL 33 yX12_fault ∈ UU := uu (i := 1714) (by decide +kernel) rfl
theorem ml_L_34 : Cond.methodLink RL 34 yX11_where ∈ UU := uu (i := 899) (by decide +kernel) rfl
theorem ml_L_37 : Cond.methodLink RL 37 yX12_where ∈ UU := uu (i := 1718) (by decide +kernel) rfl
theorem ml_L_38 : Cond.methodLink RL 38 yX11_fits ∈ UU := uu (i := 903) (by decide +kernel) rfl
theorem ml_L_41 : Cond.methodLink RL 41 yX12_fits ∈ UU := uu (i := 1722) (by decide +kernel) rfl
theorem ml_L_42 : Cond.methodLink RL 42 yX11_wearer ∈ UU := uu (i := 919) (by decide +kernel) rfl
theorem ml_L_45 : Cond.methodLink RL 45 yX12_wearer ∈ UU := uu (i := 1734) (by decide +kernel) rfl
theorem ml_L_46 : Cond.methodLink RL 46 yX11_worn ∈ UU := uu (i := 939) (by decide +kernel) rfl
theorem ml_L_49 : Cond.methodLink RL 49 yX12_worn ∈ UU := uu (i := 1746) (by decide +kernel) rfl
theorem ml_L_50 : Cond.methodLink RL 50 yX11_owes ∈ UU := uu (i := 947) (by decide +kernel) rfl
theorem ml_L_53 : Cond.methodLink RL 53 yX12_owes ∈ UU := uu (i := 1750) (by decide +kernel) rfl
theorem ml_L_54 : Cond.methodLink RL 54 yX11_done ∈ UU := uu (i := 960) (by decide +kernel) rfl
theorem ml_L_57 : Cond.methodLink RL 57 yX12_done ∈ UU := uu (i := 1766) (by decide +kernel) rfl
theorem ml_L_58 : Cond.methodLink RL 58 yX11_credit ∈ UU := uu (i := 988) (by decide +kernel) rfl
theorem ml_L_61 : Cond.methodLink RL 61 yX12_credit ∈ UU := uu (i := 1782) (by decide +kernel) rfl
theorem ml_L_62 : Cond.methodLink RL 62 yX11_debt ∈ UU := uu (i := 1009) (by decide +kernel) rfl
theorem ml_L_65 : Cond.methodLink RL 65 yX12_debt ∈ UU := uu (i := 1790) (by decide +kernel) rfl
theorem ml_L_66 : Cond.methodLink RL 66 yX11_gain ∈ UU := uu (i := 1017) (by decide +kernel) rfl
theorem ml_L_69 : Cond.methodLink RL 69 yX12_gain ∈ UU := uu (i := 1798) (by decide +kernel) rfl
theorem ml_L_70 : Cond.methodLink RL 70 yX11_guild ∈ UU := uu (i := 1025) (by decide +kernel) rfl
theorem ml_L_73 : Cond.methodLink RL 73 yX12_guild ∈ UU := uu (i := 1806) (by decide +kernel) rfl
theorem ml_L_74 : Cond.methodLink RL 74 yX11_breaks ∈ UU := uu (i := 1033) (by decide +kernel) rfl
theorem ml_L_77 : Cond.methodLink RL 77 yX12_breaks ∈ UU := uu (i := 1810) (by decide +kernel) rfl
theorem ml_L_78 : Cond.methodLink RL 78 yX11_value ∈ UU := uu (i := 1038) (by decide +kernel) rfl
theorem ml_L_81 : Cond.methodLink RL 81 yX12_value ∈ UU := uu (i := 1814) (by decide +kernel) rfl
theorem ml_L_82 : Cond.methodLink RL 82 yX11_plan ∈ UU := uu (i := 1078) (by decide +kernel) rfl
theorem ml_L_85 : Cond.methodLink RL 85 yX12_plan ∈ UU := uu (i := 1830) (by decide +kernel) rfl
theorem ml_L_86 : Cond.methodLink RL 86 yX11_needed ∈ UU := uu (i := 1090) (by decide +kernel) rfl
theorem ml_L_89 : Cond.methodLink RL 89 yX12_needed ∈ UU := uu (i := 1834) (by decide +kernel) rfl
theorem ml_L_90 : Cond.methodLink RL 90 yX11_worth ∈ UU := uu (i := 1094) (by decide +kernel) rfl
theorem ml_L_93 : Cond.methodLink RL 93 yX12_worth ∈ UU := uu (i := 1838) (by decide +kernel) rfl
theorem ml_L_94 : Cond.methodLink RL 94 yX11_real ∈ UU := uu (i := 1099) (by decide +kernel) rfl
theorem ml_L_97 : Cond.methodLink RL 97 yX12_real ∈ UU := uu (i := 1843) (by decide +kernel) rfl
theorem ml_L_98 : Cond.methodLink RL 98 yX11_terms ∈ UU := uu (i := 1107) (by decide +kernel) rfl
theorem ml_L_101 : Cond.methodLink RL 101 yX12_terms ∈ UU := uu (i := 1847) (by decide +kernel) rfl
theorem ml_L_102 : Cond.methodLink RL 102 yX11_ask ∈ UU := uu (i := 1122) (by decide +kernel) rfl
theorem ml_L_106 : Cond.methodLink RL 106 yX12_ask ∈ UU := uu (i := 1851) (by decide +kernel) rfl
theorem ml_L_107 : Cond.methodLink RL 107 yX11_wearers ∈ UU := uu (i := 1135) (by decide +kernel) rfl
theorem ml_L_110 : Cond.methodLink RL 110 yX12_wearers ∈ UU := uu (i := 1859) (by decide +kernel) rfl
theorem ml_L_111 : Cond.methodLink RL 111 yX11_odds ∈ UU := uu (i := 1192) (by decide +kernel) rfl
theorem ml_L_115 : Cond.methodLink RL 115 yX12_odds ∈ UU := uu (i := 1906) (by decide +kernel) rfl
theorem ml_L_116 : Cond.methodLink RL 116 yX11_may ∈ UU := uu (i := 1204) (by decide +kernel) rfl
theorem ml_L_119 : Cond.methodLink RL 119 yX12_may ∈ UU := uu (i := 1913) (by decide +kernel) rfl
theorem ml_L_120 : Cond.methodLink RL 120 yX11_untrue ∈ UU := uu (i := 1213) (by decide +kernel) rfl
theorem ml_L_123 : Cond.methodLink RL 123 yX12_untrue ∈ UU := uu (i := 1917) (by decide +kernel) rfl
theorem ml_L_124 : Cond.methodLink RL 124 yX11_agrees ∈ UU := uu (i := 1217) (by decide +kernel) rfl
theorem ml_L_127 : Cond.methodLink RL 127 yX12_agrees ∈ UU := uu (i := 1921) (by decide +kernel) rfl
theorem ml_L_128 : Cond.methodLink RL 128 yX11_lovers ∈ UU := uu (i := 1226) (by decide +kernel) rfl
theorem ml_L_131 : Cond.methodLink RL 131 yX12_lovers ∈ UU := uu (i := 1925) (by decide +kernel) rfl
theorem ml_L_132 : Cond.methodLink RL 132 yX11_lover ∈ UU := uu (i := 1253) (by decide +kernel) rfl
theorem ml_L_135 : Cond.methodLink RL 135 yX12_lover ∈ UU := uu (i := 1941) (by decide +kernel) rfl
theorem ml_L_136 : Cond.methodLink RL 136 yX11_lend ∈ UU := uu (i := 1261) (by decide +kernel) rfl
theorem ml_L_140 : Cond.methodLink RL 140 yX12_lend ∈ UU := uu (i := 1945) (by decide +kernel) rfl
theorem ml_L_141 : Cond.methodLink RL 141 yX11_give ∈ UU := uu (i := 1273) (by decide +kernel) rfl
theorem ml_L_145 : Cond.methodLink RL 145 yX12_give ∈ UU := uu (i := 1960) (by decide +kernel) rfl
theorem ml_L_146 : Cond.methodLink RL 146 yX11_pass ∈ UU := uu (i := 1282) (by decide +kernel) rfl
theorem ml_L_150 : Cond.methodLink RL 150 yX12_pass ∈ UU := uu (i := 1967) (by decide +kernel) rfl
theorem ml_L_151 : Cond.methodLink RL 151 yX11_breaking ∈ UU := uu (i := 1289) (by decide +kernel) rfl
theorem ml_L_155 : Cond.methodLink RL 155 yX12_breaking ∈ UU := uu (i := 1971) (by decide +kernel) rfl
theorem ml_L_156 : Cond.methodLink RL 156 yX11_undo ∈ UU := uu (i := 1294) (by decide +kernel) rfl
theorem ml_L_160 : Cond.methodLink RL 160 yX12_undo ∈ UU := uu (i := 1975) (by decide +kernel) rfl
theorem ml_L_161 : Cond.methodLink RL 161 yX11_redo ∈ UU := uu (i := 1302) (by decide +kernel) rfl
theorem ml_L_164 : Cond.methodLink RL 164 yX12_redo ∈ UU := uu (i := 1979) (by decide +kernel) rfl
theorem ml_L_165 : Cond.methodLink RL 165 yX11_image ∈ UU := uu (i := 1310) (by decide +kernel) rfl
theorem ml_L_168 : Cond.methodLink RL 168 yX12_image ∈ UU := uu (i := 1983) (by decide +kernel) rfl
theorem ml_L_169 : Cond.methodLink RL 169 yX11_back ∈ UU := uu (i := 1318) (by decide +kernel) rfl
theorem ml_L_173 : Cond.methodLink RL 173 yX12_back ∈ UU := uu (i := 1987) (by decide +kernel) rfl
theorem ml_L_174 : Cond.methodLink RL 174 yX11_lending ∈ UU := uu (i := 1322) (by decide +kernel) rfl
theorem ml_L_177 : Cond.methodLink RL 177 yX12_lending ∈ UU := uu (i := 1991) (by decide +kernel) rfl
theorem ml_L_178 : Cond.methodLink RL 178 yX11_mask ∈ UU := uu (i := 1328) (by decide +kernel) rfl
theorem ml_L_181 : Cond.methodLink RL 181 yX12_mask ∈ UU := uu (i := 1995) (by decide +kernel) rfl
theorem ml_L_182 : Cond.methodLink RL 182 yX11_person ∈ UU := uu (i := 1332) (by decide +kernel) rfl
theorem ml_L_185 : Cond.methodLink RL 185 yX12_person ∈ UU := uu (i := 1999) (by decide +kernel) rfl
theorem ml_L_186 : Cond.methodLink RL 186 yL_led ∈ UU := uu (i := 1344) (by decide +kernel) rfl
theorem ml_L_191 : Cond.methodLink RL 191 yX12_led ∈ UU := uu (i := 2003) (by decide +kernel) rfl
theorem ml_L_192 : Cond.methodLink RL 192 yX12_thrown ∈ UU := uu (i := 1519) (by decide +kernel) rfl
theorem ml_L_195 : Cond.methodLink RL 195 yX11_size ∈ UU := uu (i := 1336) (by decide +kernel) rfl
theorem ml_L_198 : Cond.methodLink RL 198 yX12_size ∈ UU := uu (i := 2007) (by decide +kernel) rfl
theorem ml_L_199 : Cond.methodLink RL 199 yX11_trouble ∈ UU := uu (i := 1340) (by decide +kernel) rfl
theorem ml_L_202 : Cond.methodLink RL 202 yX12_trouble ∈ UU := uu (i := 2011) (by decide +kernel) rfl
theorem ml_X0_3 : Cond.methodLink RX0 3 objectInit ∈ UU := uu (i := 149) (by decide +kernel) rfl
theorem ml_X0_47 : (RX0, 47, yX2_init) ∈ nests := by decide +kernel
theorem ml_X0_52 : (RX0, 52, yX3_init) ∈ nests := by decide +kernel
theorem ml_X0_53 : (RX0, 53, yX4_init) ∈ nests := by decide +kernel
theorem ml_X0_54 : (RX0, 54, yX6_init) ∈ nests := by decide +kernel
theorem ml_X0_55 : (RX0, 55, yX8_init) ∈ nests := by decide +kernel
theorem ml_X0_78 : Cond.methodLink RX0 78 yX2_clear ∈ UU := uu (i := 672) (by decide +kernel) rfl
theorem ml_X0_81 : Cond.methodLink RX0 81 yX0_hasDay ∈ UU := uu (i := 1130) (by decide +kernel) rfl
theorem ml_X0_85 : Cond.methodLink RX0 85 yX3_suits ∈ UU := uu (i := 808) (by decide +kernel) rfl
theorem ml_X0_89 : Cond.methodLink RX0 89 yX0_suits ∈ UU := uu (i := 804) (by decide +kernel) rfl
theorem ml_X0_92 : Cond.methodLink RX0 92 yX2_isOnPeg ∈ UU := uu (i := 815) (by decide +kernel) rfl
theorem ml_X0_96 : Cond.methodLink RX0 96 yX2_isBare ∈ UU := uu (i := 835) (by decide +kernel) rfl
theorem ml_X0_99 : Cond.methodLink RX0 99 yX0_hasPerson ∈ UU := uu (i := 977) (by decide +kernel) rfl
theorem ml_X0_105 : Cond.methodLink RX0 105 yX4_knows ∈ UU := uu (i := 978) (by decide +kernel) rfl
theorem ml_X0_108 : Cond.methodLink RX0 108 yX0_couldDo ∈ UU := uu (i := 973) (by decide +kernel) rfl
theorem ml_X0_117 : Cond.methodLink RX0 117 yX6_isOf ∈ UU := uu (i := 979) (by decide +kernel) rfl
theorem ml_X0_120 : Cond.methodLink RX0 120 yX3_hands ∈ UU := uu (i := 983) (by decide +kernel) rfl
theorem ml_X0_124 : Cond.methodLink RX0 124 yX2_personIn ∈ UU := uu (i := 959) (by decide +kernel) rfl
theorem ml_X0_128 : Cond.methodLink RX0 128 yX0_debtorOf ∈ UU := uu (i := 968) (by decide +kernel) rfl
theorem ml_X0_132 : Cond.methodLink RX0 132 yX0_wouldDo ∈ UU := uu (i := 969) (by decide +kernel) rfl
theorem ml_X0_135 : Cond.methodLink RX0 135 yX2_isBreaking ∈ UU := uu (i := 987) (by decide +kernel) rfl
theorem ml_X0_141 : Cond.methodLink RX0 141 yX0_isDone ∈ UU := uu (i := 1000) (by decide +kernel) rfl
theorem ml_X0_145 : Cond.methodLink RX0 145 yX6_yields ∈ UU := uu (i := 1001) (by decide +kernel) rfl
theorem ml_X0_149 : Cond.methodLink RX0 149 yJ9_min_7cf53 ∈ UU := uu (i := 1005) (by decide +kernel) rfl
theorem ml_X0_154 : Cond.methodLink RX0 154 yJ9_max_7cf53 ∈ UU := uu (i := 1006) (by decide +kernel) rfl
theorem ml_X0_166 : Cond.methodLink RX0 166 yX0_isBeforeHandingOn ∈ UU := uu (i := 1115) (by decide +kernel) rfl
theorem ml_X0_169 : Cond.methodLink RX0 169 yX2_find ∈ UU := uu (i := 1119) (by decide +kernel) rfl
theorem ml_X0_172 : Cond.methodLink RX0 172 yX2_lastDay ∈ UU := uu (i := 1120) (by decide +kernel) rfl
theorem ml_X0_176 : Cond.methodLink RX0 176 yX2_personAt ∈ UU := uu (i := 1121) (by decide +kernel) rfl
theorem ml_X1_3 : Cond.methodLink RX1 3 objectInit ∈ UU := uu (i := 529) (by decide +kernel) rfl
theorem ml_X1_20 : (RX1, 20, yX2_init) ∈ nests := by decide +kernel
theorem ml_X1_25 : Cond.methodLink RX1 25 yX2_copyFrom ∈ UU := uu (i := 888) (by decide +kernel) rfl
theorem ml_X1_38 : Cond.methodLink RX1 38 yJ9_min_7cf53 ∈ UU := uu (i := 1271) (by decide +kernel) rfl
theorem ml_X10_3 : Cond.methodLink RX10 3 objectInit ∈ UU := uu (i := 583) (by decide +kernel) rfl
theorem ml_X10_35 : Cond.methodLink RX10 35 yX10_note ∈ UU := uu (i := 1143) (by decide +kernel) rfl
theorem ml_X10_51 : Cond.methodLink RX10 51 yJ6_bitCount_0f7a4 ∈ UU := uu (i := 1162) (by decide +kernel) rfl
theorem ml_X10_57 : Cond.methodLink RX10 57 yX10_holdsWithout ∈ UU := uu (i := 1168) (by decide +kernel) rfl
theorem ml_X10_61 : Cond.methodLink RX10 61 yX10_arrange ∈ UU := uu (i := 1180) (by decide +kernel) rfl
theorem ml_X10_68 : Cond.methodLink RX10 68 yX2_personIn ∈ UU := uu (i := 1147) (by decide +kernel) rfl
theorem ml_X10_74 : Cond.methodLink RX10 74 yX10_personsFor ∈ UU := uu (i := 1148) (by decide +kernel) rfl
theorem ml_X10_86 : Cond.methodLink RX10 86 yX10_personsLike ∈ UU := uu (i := 1153) (by decide +kernel) rfl
theorem ml_X10_97 : Cond.methodLink RX10 97 yX8_resembles ∈ UU := uu (i := 1157) (by decide +kernel) rfl
theorem ml_X10_101 : Cond.methodLink RX10 101 yX10_isTwiceAtOnce ∈ UU := uu (i := 1172) (by decide +kernel) rfl
theorem ml_X10_104 : Cond.methodLink RX10 104 yX10_ways ∈ UU := uu (i := 1184) (by decide +kernel) rfl
theorem ml_X10_107 : Cond.methodLink RX10 107 yX8_clashesWith ∈ UU := uu (i := 1176) (by decide +kernel) rfl
theorem ml_X10_123 : Cond.methodLink RX10 123 yX0_suits ∈ UU := uu (i := 1152) (by decide +kernel) rfl
theorem ml_X10_127 : Cond.methodLink RX10 127 yX10_allWith ∈ UU := uu (i := 1212) (by decide +kernel) rfl
theorem ml_X10_130 : Cond.methodLink RX10 130 yX10_letterDays ∈ UU := uu (i := 1238) (by decide +kernel) rfl
theorem ml_X10_133 : Cond.methodLink RX10 133 yJ7_fill_53178 ∈ UU := uu (i := 1242) (by decide +kernel) rfl
theorem ml_X10_142 : Cond.methodLink RX10 142 yX10_look ∈ UU := uu (i := 1243) (by decide +kernel) rfl
theorem ml_X10_146 : Cond.methodLink RX10 146 yX10_keepPartners ∈ UU := uu (i := 1244) (by decide +kernel) rfl
theorem ml_X10_162 : Cond.methodLink RX10 162 yX10_personsIn ∈ UU := uu (i := 1248) (by decide +kernel) rfl
theorem ml_X11_1 : Cond.methodLink RX11 1 objectInit ∈ UU := uu (i := 141) (by decide +kernel) rfl
theorem ml_X11_28 : Cond.methodLink RX11 28 yX0_init ∈ UU := uu (i := 146) (by decide +kernel) rfl
theorem ml_X11_38 : Cond.methodLink RX11 38 yX7_init ∈ UU := uu (i := 382) (by decide +kernel) rfl
theorem ml_X11_45 : Cond.methodLink RX11 45 yX1_init ∈ UU := uu (i := 526) (by decide +kernel) rfl
theorem ml_X11_52 : (RX11, 52, yX5_init) ∈ nests := by decide +kernel
theorem ml_X11_59 : (RX11, 59, yX10_init) ∈ nests := by decide +kernel
theorem ml_X11_64 : Cond.methodLink RX11 64 yX11_putOnTape ∈ UU := uu (i := 652) (by decide +kernel) rfl
theorem ml_X11_68 : Cond.methodLink RX11 68 yX11_admit ∈ UU := uu (i := 660) (by decide +kernel) rfl
theorem ml_X11_72 : Cond.methodLink RX11 72 yX7_read ∈ UU := uu (i := 664) (by decide +kernel) rfl
theorem ml_X11_78 : Cond.methodLink RX11 78 yX11_refuse ∈ UU := uu (i := 876) (by decide +kernel) rfl
theorem ml_X11_82 : Cond.methodLink RX11 82 yX1_dropImages ∈ UU := uu (i := 880) (by decide +kernel) rfl
theorem ml_X11_89 : Cond.methodLink RX11 89 yX1_begin ∈ UU := uu (i := 884) (by decide +kernel) rfl
theorem ml_X11_96 : Cond.methodLink RX11 96 yX0_hasMask ∈ UU := uu (i := 907) (by decide +kernel) rfl
theorem ml_X11_99 : Cond.methodLink RX11 99 yX0_hasPerson ∈ UU := uu (i := 911) (by decide +kernel) rfl
theorem ml_X11_102 : Cond.methodLink RX11 102 yX0_suits ∈ UU := uu (i := 915) (by decide +kernel) rfl
theorem ml_X11_106 : Cond.methodLink RX11 106 yX11_asNumber ∈ UU := uu (i := 916) (by decide +kernel) rfl
theorem ml_X11_110 : Cond.methodLink RX11 110 yX0_hasDay ∈ UU := uu (i := 923) (by decide +kernel) rfl
theorem ml_X11_113 : Cond.methodLink RX11 113 yX1_now ∈ UU := uu (i := 927) (by decide +kernel) rfl
theorem ml_X11_117 : Cond.methodLink RX11 117 yX2_personIn ∈ UU := uu (i := 931) (by decide +kernel) rfl
theorem ml_X11_123 : Cond.methodLink RX11 123 yX2_maskOf ∈ UU := uu (i := 943) (by decide +kernel) rfl
theorem ml_X11_126 : Cond.methodLink RX11 126 yX0_hasPromise ∈ UU := uu (i := 951) (by decide +kernel) rfl
theorem ml_X11_129 : Cond.methodLink RX11 129 yX0_debtorOf ∈ UU := uu (i := 955) (by decide +kernel) rfl
theorem ml_X11_133 : Cond.methodLink RX11 133 yX0_isDone ∈ UU := uu (i := 964) (by decide +kernel) rfl
theorem ml_X11_137 : Cond.methodLink RX11 137 yX0_hasDayOrNone ∈ UU := uu (i := 992) (by decide +kernel) rfl
theorem ml_X11_140 : Cond.methodLink RX11 140 yX0_creditBehind ∈ UU := uu (i := 996) (by decide +kernel) rfl
theorem ml_X11_144 : Cond.methodLink RX11 144 yX0_finesOf ∈ UU := uu (i := 1013) (by decide +kernel) rfl
theorem ml_X11_147 : Cond.methodLink RX11 147 yX0_earningsOf ∈ UU := uu (i := 1021) (by decide +kernel) rfl
theorem ml_X11_150 : Cond.methodLink RX11 150 yX0_isTold ∈ UU := uu (i := 1029) (by decide +kernel) rfl
theorem ml_X11_157 : Cond.methodLink RX11 157 yX2_isBreaking ∈ UU := uu (i := 1037) (by decide +kernel) rfl
theorem ml_X11_160 : Cond.methodLink RX11 160 yX5_weigh ∈ UU := uu (i := 1042) (by decide +kernel) rfl
theorem ml_X11_164 : Cond.methodLink RX11 164 yX5_most ∈ UU := uu (i := 1074) (by decide +kernel) rfl
theorem ml_X11_168 : Cond.methodLink RX11 168 yX5_choice ∈ UU := uu (i := 1082) (by decide +kernel) rfl
theorem ml_X11_172 : Cond.methodLink RX11 172 yX0_balanceOn ∈ UU := uu (i := 1103) (by decide +kernel) rfl
theorem ml_X11_175 : Cond.methodLink RX11 175 yX0_leastDeposit ∈ UU := uu (i := 1111) (by decide +kernel) rfl
theorem ml_X11_179 : Cond.methodLink RX11 179 yX0_hasDays ∈ UU := uu (i := 1126) (by decide +kernel) rfl
theorem ml_X11_182 : Cond.methodLink RX11 182 yX0_priceOf ∈ UU := uu (i := 1131) (by decide +kernel) rfl
theorem ml_X11_186 : Cond.methodLink RX11 186 yX10_look ∈ UU := uu (i := 1139) (by decide +kernel) rfl
theorem ml_X11_190 : Cond.methodLink RX11 190 yX10_all ∈ UU := uu (i := 1188) (by decide +kernel) rfl
theorem ml_X11_194 : Cond.methodLink RX11 194 yX10_allWith ∈ UU := uu (i := 1196) (by decide +kernel) rfl
theorem ml_X11_197 : Cond.methodLink RX11 197 yX11_commonDivisor ∈ UU := uu (i := 1200) (by decide +kernel) rfl
theorem ml_X11_200 : Cond.methodLink RX11 200 yX10_personsIn ∈ UU := uu (i := 1208) (by decide +kernel) rfl
theorem ml_X11_206 : Cond.methodLink RX11 206 yX0_hasSighting ∈ UU := uu (i := 1221) (by decide +kernel) rfl
theorem ml_X11_222 : Cond.methodLink RX11 222 yX8_resembles ∈ UU := uu (i := 1225) (by decide +kernel) rfl
theorem ml_X11_226 : Cond.methodLink RX11 226 yX11_areTwoMasks ∈ UU := uu (i := 1230) (by decide +kernel) rfl
theorem ml_X11_229 : Cond.methodLink RX11 229 yX10_pair ∈ UU := uu (i := 1234) (by decide +kernel) rfl
theorem ml_X11_233 : Cond.methodLink RX11 233 yX10_pairCount ∈ UU := uu (i := 1249) (by decide +kernel) rfl
theorem ml_X11_236 : Cond.methodLink RX11 236 yX10_ofPair ∈ UU := uu (i := 1257) (by decide +kernel) rfl
theorem ml_X11_240 : Cond.methodLink RX11 240 yX2_isFull ∈ UU := uu (i := 1265) (by decide +kernel) rfl
theorem ml_X11_243 : Cond.methodLink RX11 243 yX0_canLend ∈ UU := uu (i := 1266) (by decide +kernel) rfl
theorem ml_X11_247 : Cond.methodLink RX11 247 yX1_step ∈ UU := uu (i := 1267) (by decide +kernel) rfl
theorem ml_X11_250 : Cond.methodLink RX11 250 yX2_add ∈ UU := uu (i := 1272) (by decide +kernel) rfl
theorem ml_X11_254 : Cond.methodLink RX11 254 yX2_find ∈ UU := uu (i := 1277) (by decide +kernel) rfl
theorem ml_X11_257 : Cond.methodLink RX11 257 yX2_endAhead ∈ UU := uu (i := 1278) (by decide +kernel) rfl
theorem ml_X11_261 : Cond.methodLink RX11 261 yX2_firstDay ∈ UU := uu (i := 1286) (by decide +kernel) rfl
theorem ml_X11_264 : Cond.methodLink RX11 264 yX2_lastDay ∈ UU := uu (i := 1287) (by decide +kernel) rfl
theorem ml_X11_267 : Cond.methodLink RX11 267 yX2_isBare ∈ UU := uu (i := 1288) (by decide +kernel) rfl
theorem ml_X11_271 : Cond.methodLink RX11 271 yX2_flipBreaking ∈ UU := uu (i := 1293) (by decide +kernel) rfl
theorem ml_X11_274 : Cond.methodLink RX11 274 yX1_stepBack ∈ UU := uu (i := 1298) (by decide +kernel) rfl
theorem ml_X11_277 : Cond.methodLink RX11 277 yX1_stepForth ∈ UU := uu (i := 1306) (by decide +kernel) rfl
theorem ml_X11_283 : Cond.methodLink RX11 283 yX1_keepImage ∈ UU := uu (i := 1314) (by decide +kernel) rfl
theorem ml_X11_293 : Cond.methodLink RX11 293 yX2_maskAt ∈ UU := uu (i := 1326) (by decide +kernel) rfl
theorem ml_X11_296 : Cond.methodLink RX11 296 yX2_personAt ∈ UU := uu (i := 1327) (by decide +kernel) rfl
theorem ml_X11_351 : Cond.methodLink RX11 351 yJ9_max_7cf53 ∈ UU := uu (i := 1203) (by decide +kernel) rfl
theorem ml_X12_1 : Cond.methodLink RX12 1 objectInit ∈ UU := uu (i := 1418) (by decide +kernel) rfl
theorem ml_X12_69 : Cond.methodLink RX12 69 yX12_look ∈ UU := uu (i := 1546) (by decide +kernel) rfl
theorem ml_X12_85 : Cond.methodLink RX12 85 yX12_isSmall ∈ UU := uu (i := 1550) (by decide +kernel) rfl
theorem ml_X12_89 : Cond.methodLink RX12 89 yX12_isDigit ∈ UU := uu (i := 1553) (by decide +kernel) rfl
theorem ml_X12_99 : Cond.methodLink RX12 99 yJ0_length_8abf5 ∈ UU := uu (i := 1569) (by decide +kernel) rfl
theorem ml_X12_105 : Cond.methodLink RX12 105 yJ0_charAt_5068e ∈ UU := uu (i := 1570) (by decide +kernel) rfl
theorem ml_X12_109 : Cond.methodLink RX12 109 yX12_isWord ∈ UU := uu (i := 1565) (by decide +kernel) rfl
theorem ml_X12_113 : Cond.methodLink RX12 113 yX12_next ∈ UU := uu (i := 1542) (by decide +kernel) rfl
theorem ml_X12_116 : Cond.methodLink RX12 116 yX12_takes ∈ UU := uu (i := 1588) (by decide +kernel) rfl
theorem ml_X12_119 : Cond.methodLink RX12 119 yX12_wrong ∈ UU := uu (i := 1571) (by decide +kernel) rfl
theorem ml_X12_148 : Cond.methodLink RX12 148 yX12_mustName ∈ UU := uu (i := 1605) (by decide +kernel) rfl
theorem ml_X12_151 : Cond.methodLink RX12 151 yX12_find ∈ UU := uu (i := 1620) (by decide +kernel) rfl
theorem ml_X12_154 : Cond.methodLink RX12 154 yX12_within ∈ UU := uu (i := 1535) (by decide +kernel) rfl
theorem ml_X12_158 : Cond.methodLink RX12 158 yX12_has ∈ UU := uu (i := 1654) (by decide +kernel) rfl
theorem ml_X12_162 : Cond.methodLink RX12 162 yX12_named ∈ UU := uu (i := 1650) (by decide +kernel) rfl
theorem ml_X12_166 : Cond.methodLink RX12 166 yX12_must ∈ UU := uu (i := 1584) (by decide +kernel) rfl
theorem ml_X12_170 : Cond.methodLink RX12 170 yX12_number ∈ UU := uu (i := 1592) (by decide +kernel) rfl
theorem ml_X12_173 : Cond.methodLink RX12 173 yX12_good ∈ UU := uu (i := 1531) (by decide +kernel) rfl
theorem ml_X12_176 : Cond.methodLink RX12 176 yX12_no ∈ UU := uu (i := 1538) (by decide +kernel) rfl
theorem ml_X12_179 : Cond.methodLink RX12 179 yX12_readLine ∈ UU := uu (i := 1556) (by decide +kernel) rfl
theorem ml_X12_182 : Cond.methodLink RX12 182 yX12_copy ∈ UU := uu (i := 1711) (by decide +kernel) rfl
theorem ml_X12_198 : Cond.methodLink RX12 198 yX12_begins ∈ UU := uu (i := 1561) (by decide +kernel) rfl
theorem ml_X12_202 : Cond.methodLink RX12 202 yX12_townLine ∈ UU := uu (i := 1575) (by decide +kernel) rfl
theorem ml_X12_205 : Cond.methodLink RX12 205 yX12_workLine ∈ UU := uu (i := 1597) (by decide +kernel) rfl
theorem ml_X12_208 : Cond.methodLink RX12 208 yX12_maskLine ∈ UU := uu (i := 1632) (by decide +kernel) rfl
theorem ml_X12_211 : Cond.methodLink RX12 211 yX12_personLine ∈ UU := uu (i := 1641) (by decide +kernel) rfl
theorem ml_X12_214 : Cond.methodLink RX12 214 yX12_beginsDay ∈ UU := uu (i := 1657) (by decide +kernel) rfl
theorem ml_X12_218 : Cond.methodLink RX12 218 yX12_promiseLine ∈ UU := uu (i := 1661) (by decide +kernel) rfl
theorem ml_X12_221 : Cond.methodLink RX12 221 yX12_lentLine ∈ UU := uu (i := 1673) (by decide +kernel) rfl
theorem ml_X12_224 : Cond.methodLink RX12 224 yX12_seenLine ∈ UU := uu (i := 1698) (by decide +kernel) rfl
theorem ml_X12_227 : Cond.methodLink RX12 227 yX12_letterLine ∈ UU := uu (i := 1703) (by decide +kernel) rfl
theorem ml_X12_230 : Cond.methodLink RX12 230 yX12_breakLine ∈ UU := uu (i := 1707) (by decide +kernel) rfl
theorem ml_X12_235 : Cond.methodLink RX12 235 yX12_told ∈ UU := uu (i := 1580) (by decide +kernel) rfl
theorem ml_X12_239 : Cond.methodLink RX12 239 yX12_mustBeNew ∈ UU := uu (i := 1601) (by decide +kernel) rfl
theorem ml_X12_242 : Cond.methodLink RX12 242 yX12_keepName ∈ UU := uu (i := 1624) (by decide +kernel) rfl
theorem ml_X12_246 : Cond.methodLink RX12 246 yX12_comma ∈ UU := uu (i := 1628) (by decide +kernel) rfl
theorem ml_X12_262 : Cond.methodLink RX12 262 yX12_passed ∈ UU := uu (i := 1646) (by decide +kernel) rfl
theorem ml_X12_267 : Cond.methodLink RX12 267 yX12_day ∈ UU := uu (i := 1666) (by decide +kernel) rfl
theorem ml_X12_283 : Cond.methodLink RX12 283 yX12_canLend ∈ UU := uu (i := 1680) (by decide +kernel) rfl
theorem ml_X12_287 : Cond.methodLink RX12 287 yX12_putLending ∈ UU := uu (i := 1695) (by decide +kernel) rfl
theorem ml_X12_293 : Cond.methodLink RX12 293 yX12_without ∈ UU := uu (i := 1686) (by decide +kernel) rfl
theorem ml_X12_296 : Cond.methodLink RX12 296 yX12_doesFit ∈ UU := uu (i := 1683) (by decide +kernel) rfl
theorem ml_X12_300 : Cond.methodLink RX12 300 yX12_maskOf ∈ UU := uu (i := 1689) (by decide +kernel) rfl
theorem ml_X12_304 : Cond.methodLink RX12 304 yX12_lendingOf ∈ UU := uu (i := 1692) (by decide +kernel) rfl
theorem ml_X12_307 : Cond.methodLink RX12 307 yX12_isMask ∈ UU := uu (i := 1726) (by decide +kernel) rfl
theorem ml_X12_310 : Cond.methodLink RX12 310 yX12_isPerson ∈ UU := uu (i := 1730) (by decide +kernel) rfl
theorem ml_X12_313 : Cond.methodLink RX12 313 yX12_isDay ∈ UU := uu (i := 1738) (by decide +kernel) rfl
theorem ml_X12_316 : Cond.methodLink RX12 316 yX12_wearerOf ∈ UU := uu (i := 1742) (by decide +kernel) rfl
theorem ml_X12_319 : Cond.methodLink RX12 319 yX12_own ∈ UU := uu (i := 1762) (by decide +kernel) rfl
theorem ml_X12_322 : Cond.methodLink RX12 322 yX12_owed ∈ UU := uu (i := 1758) (by decide +kernel) rfl
theorem ml_X12_325 : Cond.methodLink RX12 325 yX12_isBroken ∈ UU := uu (i := 1774) (by decide +kernel) rfl
theorem ml_X12_328 : Cond.methodLink RX12 328 yX12_wouldBe ∈ UU := uu (i := 1778) (by decide +kernel) rfl
theorem ml_X12_331 : Cond.methodLink RX12 331 yX12_isPromise ∈ UU := uu (i := 1754) (by decide +kernel) rfl
theorem ml_X12_334 : Cond.methodLink RX12 334 yX12_isDone ∈ UU := uu (i := 1770) (by decide +kernel) rfl
theorem ml_X12_337 : Cond.methodLink RX12 337 yX12_isDayOrNone ∈ UU := uu (i := 1786) (by decide +kernel) rfl
theorem ml_X12_340 : Cond.methodLink RX12 340 yX12_debtOf ∈ UU := uu (i := 1794) (by decide +kernel) rfl
theorem ml_X12_343 : Cond.methodLink RX12 343 yX12_less ∈ UU := uu (i := 1802) (by decide +kernel) rfl
theorem ml_X12_346 : Cond.methodLink RX12 346 yX12_worthBy ∈ UU := uu (i := 1826) (by decide +kernel) rfl
theorem ml_X12_350 : Cond.methodLink RX12 350 yX12_planWhy ∈ UU := uu (i := 1818) (by decide +kernel) rfl
theorem ml_X12_353 : Cond.methodLink RX12 353 yX12_layPlan ∈ UU := uu (i := 1822) (by decide +kernel) rfl
theorem ml_X12_357 : Cond.methodLink RX12 357 yX12_areDays ∈ UU := uu (i := 1855) (by decide +kernel) rfl
theorem ml_X12_360 : Cond.methodLink RX12 360 yX12_seen ∈ UU := uu (i := 1879) (by decide +kernel) rfl
theorem ml_X12_362 : Cond.methodLink RX12 362 yX12_doesAgree ∈ UU := uu (i := 1898) (by decide +kernel) rfl
theorem ml_X12_377 : Cond.methodLink RX12 377 yX12_mayWear ∈ UU := uu (i := 1894) (by decide +kernel) rfl
theorem ml_X12_381 : Cond.methodLink RX12 381 yX12_isTold ∈ UU := uu (i := 1902) (by decide +kernel) rfl
theorem ml_X12_384 : Cond.methodLink RX12 384 yX12_tellNone ∈ UU := uu (i := 1871) (by decide +kernel) rfl
theorem ml_X12_387 : Cond.methodLink RX12 387 yX12_sightsOf ∈ UU := uu (i := 1875) (by decide +kernel) rfl
theorem ml_X12_390 : Cond.methodLink RX12 390 yX12_bits ∈ UU := uu (i := 1883) (by decide +kernel) rfl
theorem ml_X12_393 : Cond.methodLink RX12 393 yX12_areApart ∈ UU := uu (i := 1886) (by decide +kernel) rfl
theorem ml_X12_396 : Cond.methodLink RX12 396 yX12_countWearers ∈ UU := uu (i := 1890) (by decide +kernel) rfl
theorem ml_X12_400 : Cond.methodLink RX12 400 yX12_findFalse ∈ UU := uu (i := 1867) (by decide +kernel) rfl
theorem ml_X12_403 : Cond.methodLink RX12 403 yX12_trueOf ∈ UU := uu (i := 1863) (by decide +kernel) rfl
theorem ml_X12_406 : Cond.methodLink RX12 406 yX12_common ∈ UU := uu (i := 1910) (by decide +kernel) rfl
theorem ml_X12_410 : Cond.methodLink RX12 410 yX12_areLovers ∈ UU := uu (i := 1937) (by decide +kernel) rfl
theorem ml_X12_413 : Cond.methodLink RX12 413 yX12_areMasks ∈ UU := uu (i := 1929) (by decide +kernel) rfl
theorem ml_X12_416 : Cond.methodLink RX12 416 yX12_loversAt ∈ UU := uu (i := 1933) (by decide +kernel) rfl
theorem ml_X12_419 : Cond.methodLink RX12 419 yX12_keep ∈ UU := uu (i := 1957) (by decide +kernel) rfl
theorem ml_X12_423 : Cond.methodLink RX12 423 yX12_isNot ∈ UU := uu (i := 1949) (by decide +kernel) rfl
theorem ml_X12_426 : Cond.methodLink RX12 426 yX12_did ∈ UU := uu (i := 1953) (by decide +kernel) rfl
theorem ml_X12_429 : Cond.methodLink RX12 429 yX12_dropLending ∈ UU := uu (i := 1964) (by decide +kernel) rfl
theorem ml_X2_3 : Cond.methodLink RX2 3 objectInit ∈ UU := uu (i := 163) (by decide +kernel) rfl
theorem ml_X2_22 : Cond.methodLink RX2 22 yJ7_fill_53178 ∈ UU := uu (i := 676) (by decide +kernel) rfl
theorem ml_X2_28 : Cond.methodLink RX2 28 arraycopyName ∈ UU := uu (i := 892) (by decide +kernel) rfl
theorem ml_X2_34 : Cond.methodLink RX2 34 yX2_firstDay ∈ UU := uu (i := 827) (by decide +kernel) rfl
theorem ml_X2_38 : Cond.methodLink RX2 38 yX2_lastDay ∈ UU := uu (i := 831) (by decide +kernel) rfl
theorem ml_X2_41 : Cond.methodLink RX2 41 yX2_maskAt ∈ UU := uu (i := 819) (by decide +kernel) rfl
theorem ml_X2_44 : Cond.methodLink RX2 44 yX2_touches ∈ UU := uu (i := 823) (by decide +kernel) rfl
theorem ml_X2_48 : Cond.methodLink RX2 48 yX2_find ∈ UU := uu (i := 935) (by decide +kernel) rfl
theorem ml_X2_52 : Cond.methodLink RX2 52 yX2_personAt ∈ UU := uu (i := 839) (by decide +kernel) rfl
theorem ml_X2_55 : Cond.methodLink RX2 55 yX2_isFull ∈ UU := uu (i := 847) (by decide +kernel) rfl
theorem ml_X3_3 : Cond.methodLink RX3 3 objectInit ∈ UU := uu (i := 182) (by decide +kernel) rfl
theorem ml_X3_18 : Cond.methodLink RX3 18 yJ9_abs_0f7a4 ∈ UU := uu (i := 812) (by decide +kernel) rfl
theorem ml_X4_1 : Cond.methodLink RX4 1 objectInit ∈ UU := uu (i := 203) (by decide +kernel) rfl
theorem ml_X5_3 : Cond.methodLink RX5 3 objectInit ∈ UU := uu (i := 561) (by decide +kernel) rfl
theorem ml_X5_34 : Cond.methodLink RX5 34 yX5_weighMask ∈ UU := uu (i := 1046) (by decide +kernel) rfl
theorem ml_X5_38 : Cond.methodLink RX5 38 yJ7_fill_fda19 ∈ UU := uu (i := 1055) (by decide +kernel) rfl
theorem ml_X5_44 : Cond.methodLink RX5 44 yX5_mostFrom ∈ UU := uu (i := 1061) (by decide +kernel) rfl
theorem ml_X5_48 : Cond.methodLink RX5 48 yX0_balanceIf ∈ UU := uu (i := 1050) (by decide +kernel) rfl
theorem ml_X5_55 : Cond.methodLink RX5 55 yX0_suits ∈ UU := uu (i := 1054) (by decide +kernel) rfl
theorem ml_X5_59 : Cond.methodLink RX5 59 yX5_withPeg ∈ UU := uu (i := 1065) (by decide +kernel) rfl
theorem ml_X5_62 : Cond.methodLink RX5 62 yX5_withPerson ∈ UU := uu (i := 1069) (by decide +kernel) rfl
theorem ml_X5_65 : Cond.methodLink RX5 65 yJ9_max_7cf53 ∈ UU := uu (i := 1073) (by decide +kernel) rfl
theorem ml_X5_70 : Cond.methodLink RX5 70 yX5_firstBest ∈ UU := uu (i := 1086) (by decide +kernel) rfl
theorem ml_X6_1 : Cond.methodLink RX6 1 objectInit ∈ UU := uu (i := 236) (by decide +kernel) rfl
theorem ml_X7_5 : Cond.methodLink RX7 5 objectInit ∈ UU := uu (i := 385) (by decide +kernel) rfl
theorem ml_X7_13 : (RX7, 13, yX9_init) ∈ nests := by decide +kernel
theorem ml_X7_31 : Cond.methodLink RX7 31 yX7_reserve ∈ UU := uu (i := 423) (by decide +kernel) rfl
theorem ml_X7_63 : Cond.methodLink RX7 63 yX9_lettersOf ∈ UU := uu (i := 427) (by decide +kernel) rfl
theorem ml_X7_77 : Cond.methodLink RX7 77 yX0_clear ∈ UU := uu (i := 668) (by decide +kernel) rfl
theorem ml_X7_85 : Cond.methodLink RX7 85 yX9_open ∈ UU := uu (i := 679) (by decide +kernel) rfl
theorem ml_X7_89 : Cond.methodLink RX7 89 yX9_advance ∈ UU := uu (i := 686) (by decide +kernel) rfl
theorem ml_X7_92 : Cond.methodLink RX7 92 yX7_readLine ∈ UU := uu (i := 698) (by decide +kernel) rfl
theorem ml_X7_99 : Cond.methodLink RX7 99 yX7_readEnd ∈ UU := uu (i := 872) (by decide +kernel) rfl
theorem ml_X7_102 : Cond.methodLink RX7 102 yX7_failHere ∈ UU := uu (i := 723) (by decide +kernel) rfl
theorem ml_X7_115 : Cond.methodLink RX7 115 yX7_passWord ∈ UU := uu (i := 702) (by decide +kernel) rfl
theorem ml_X7_119 : Cond.methodLink RX7 119 yX7_readTown ∈ UU := uu (i := 710) (by decide +kernel) rfl
theorem ml_X7_122 : Cond.methodLink RX7 122 yX7_readWorks ∈ UU := uu (i := 727) (by decide +kernel) rfl
theorem ml_X7_125 : Cond.methodLink RX7 125 yX7_readMask ∈ UU := uu (i := 747) (by decide +kernel) rfl
theorem ml_X7_128 : Cond.methodLink RX7 128 yX7_readPerson ∈ UU := uu (i := 760) (by decide +kernel) rfl
theorem ml_X7_131 : Cond.methodLink RX7 131 yX7_readPromise ∈ UU := uu (i := 777) (by decide +kernel) rfl
theorem ml_X7_134 : Cond.methodLink RX7 134 yX7_readLent ∈ UU := uu (i := 789) (by decide +kernel) rfl
theorem ml_X7_137 : Cond.methodLink RX7 137 yX7_readSeen ∈ UU := uu (i := 851) (by decide +kernel) rfl
theorem ml_X7_140 : Cond.methodLink RX7 140 yX7_readLetter ∈ UU := uu (i := 856) (by decide +kernel) rfl
theorem ml_X7_143 : Cond.methodLink RX7 143 yX7_readBreak ∈ UU := uu (i := 860) (by decide +kernel) rfl
theorem ml_X7_146 : Cond.methodLink RX7 146 yX7_failBefore ∈ UU := uu (i := 714) (by decide +kernel) rfl
theorem ml_X7_150 : Cond.methodLink RX7 150 yX7_needWhole ∈ UU := uu (i := 719) (by decide +kernel) rfl
theorem ml_X7_160 : Cond.methodLink RX7 160 yX7_needNewName ∈ UU := uu (i := 731) (by decide +kernel) rfl
theorem ml_X7_164 : Cond.methodLink RX7 164 yX7_passComma ∈ UU := uu (i := 743) (by decide +kernel) rfl
theorem ml_X7_171 : Cond.methodLink RX7 171 yX7_needKind ∈ UU := uu (i := 751) (by decide +kernel) rfl
theorem ml_X7_199 : Cond.methodLink RX7 199 yX9_isWord ∈ UU := uu (i := 706) (by decide +kernel) rfl
theorem ml_X7_207 : Cond.methodLink RX7 207 yX7_readPersonsWorks ∈ UU := uu (i := 765) (by decide +kernel) rfl
theorem ml_X7_211 : Cond.methodLink RX7 211 yX7_needTold ∈ UU := uu (i := 769) (by decide +kernel) rfl
theorem ml_X7_214 : Cond.methodLink RX7 214 yX4_knows ∈ UU := uu (i := 773) (by decide +kernel) rfl
theorem ml_X7_220 : Cond.methodLink RX7 220 yX7_needRoom ∈ UU := uu (i := 781) (by decide +kernel) rfl
theorem ml_X7_261 : Cond.methodLink RX7 261 yX7_needWord ∈ UU := uu (i := 794) (by decide +kernel) rfl
theorem ml_X7_268 : Cond.methodLink RX7 268 yX0_canLend ∈ UU := uu (i := 800) (by decide +kernel) rfl
theorem ml_X7_272 : Cond.methodLink RX7 272 yX2_add ∈ UU := uu (i := 843) (by decide +kernel) rfl
theorem ml_X7_305 : Cond.methodLink RX7 305 yX2_isBreaking ∈ UU := uu (i := 864) (by decide +kernel) rfl
theorem ml_X7_308 : Cond.methodLink RX7 308 yX2_flipBreaking ∈ UU := uu (i := 868) (by decide +kernel) rfl
theorem ml_X7_323 : Cond.methodLink RX7 323 yX7_findName ∈ UU := uu (i := 735) (by decide +kernel) rfl
theorem ml_X7_327 : Cond.methodLink RX7 327 yX7_isName ∈ UU := uu (i := 739) (by decide +kernel) rfl
theorem ml_X8_1 : Cond.methodLink RX8 1 objectInit ∈ UU := uu (i := 270) (by decide +kernel) rfl
theorem ml_X8_16 : Cond.methodLink RX8 16 yJ9_abs_0f7a4 ∈ UU := uu (i := 1161) (by decide +kernel) rfl
theorem ml_X9_1 : Cond.methodLink RX9 1 objectInit ∈ UU := uu (i := 391) (by decide +kernel) rfl
theorem ml_X9_13 : Cond.methodLink RX9 13 yJ9_min_7cf53 ∈ UU := uu (i := 683) (by decide +kernel) rfl
theorem ml_X9_35 : Cond.methodLink RX9 35 yX9_readWord ∈ UU := uu (i := 690) (by decide +kernel) rfl
theorem ml_X9_38 : Cond.methodLink RX9 38 yX9_readWhole ∈ UU := uu (i := 694) (by decide +kernel) rfl
theorem ml_X9_45 : Cond.methodLink RX9 45 yJ0_length_8abf5 ∈ UU := uu (i := 430) (by decide +kernel) rfl
theorem ml_X9_50 : Cond.methodLink RX9 50 yJ0_charAt_5068e ∈ UU := uu (i := 440) (by decide +kernel) rfl
abbrev mJ0_charAt_5068e : MethodName × ByteArray × Nat × Option FieldType := (yJ0_charAt_5068e, cJ0_charAt_5068e, 2, (some .char))
set_option maxRecDepth 100000 in
theorem mv_J0_charAt_5068e : MV yJ0_charAt_5068e cJ0_charAt_5068e 2 (some .char) 1 := ⟨uu (i := 441) (by decide +kernel) rfl, uu (i := 442) (by decide +kernel) rfl, uu (i := 120) (by decide +kernel) rfl, uu (i := 443) rfl rfl, ⟨by decide +kernel, by decide +kernel, by decide +kernel⟩, by decide⟩
abbrev mJ0_checkIndex_df160 : MethodName × ByteArray × Nat × Option FieldType := (yJ0_checkIndex_df160, cJ0_checkIndex_df160, 2, none)
set_option maxRecDepth 100000 in
theorem ms_J0_checkIndex_df160 : MS yJ0_checkIndex_df160 cJ0_checkIndex_df160 2 none 2 := ⟨uu (i := 452) (by decide +kernel) rfl, uu (i := 120) (by decide +kernel) rfl, uu (i := 453) rfl rfl, ⟨by decide +kernel, by decide +kernel, by decide +kernel⟩, by decide⟩
abbrev mJ0_coder_7d493 : MethodName × ByteArray × Nat × Option FieldType := (yJ0_coder_7d493, cJ0_coder_7d493, 1, (some .byte))
set_option maxRecDepth 100000 in
theorem mv_J0_coder_7d493 : MV yJ0_coder_7d493 cJ0_coder_7d493 1 (some .byte) 0 := ⟨uu (i := 435) (by decide +kernel) rfl, uu (i := 436) (by decide +kernel) rfl, uu (i := 120) (by decide +kernel) rfl, uu (i := 437) rfl rfl, ⟨by decide +kernel, by decide +kernel, by decide +kernel⟩, by decide⟩
abbrev mJ0_isLatin1_aae02 : MethodName × ByteArray × Nat × Option FieldType := (yJ0_isLatin1_aae02, cJ0_isLatin1_aae02, 1, (some .boolean))
set_option maxRecDepth 100000 in
theorem mv_J0_isLatin1_aae02 : MV yJ0_isLatin1_aae02 cJ0_isLatin1_aae02 1 (some .boolean) 0 := ⟨uu (i := 445) (by decide +kernel) rfl, uu (i := 446) (by decide +kernel) rfl, uu (i := 120) (by decide +kernel) rfl, uu (i := 447) rfl rfl, ⟨by decide +kernel, by decide +kernel, by decide +kernel⟩, by decide⟩
abbrev mJ0_length_8abf5 : MethodName × ByteArray × Nat × Option FieldType := (yJ0_length_8abf5, cJ0_length_8abf5, 1, (some .int))
set_option maxRecDepth 100000 in
theorem mv_J0_length_8abf5 : MV yJ0_length_8abf5 cJ0_length_8abf5 1 (some .int) 0 := ⟨uu (i := 431) (by decide +kernel) rfl, uu (i := 432) (by decide +kernel) rfl, uu (i := 120) (by decide +kernel) rfl, uu (i := 433) rfl rfl, ⟨by decide +kernel, by decide +kernel, by decide +kernel⟩, by decide⟩
abbrev mJ1_charAt_3b067 : MethodName × ByteArray × Nat × Option FieldType := (yJ1_charAt_3b067, cJ1_charAt_3b067, 2, (some .char))
set_option maxRecDepth 100000 in
theorem ms_J1_charAt_3b067 : MS yJ1_charAt_3b067 cJ1_charAt_3b067 2 (some .char) 2 := ⟨uu (i := 449) (by decide +kernel) rfl, uu (i := 121) (by decide +kernel) rfl, uu (i := 450) rfl rfl, ⟨by decide +kernel, by decide +kernel, by decide +kernel⟩, by decide⟩
abbrev mJ2_charAt_3b067 : MethodName × ByteArray × Nat × Option FieldType := (yJ2_charAt_3b067, cJ2_charAt_3b067, 2, (some .char))
set_option maxRecDepth 100000 in
theorem ms_J2_charAt_3b067 : MS yJ2_charAt_3b067 cJ2_charAt_3b067 2 (some .char) 2 := ⟨uu (i := 460) (by decide +kernel) rfl, uu (i := 123) (by decide +kernel) rfl, uu (i := 461) rfl rfl, ⟨by decide +kernel, by decide +kernel, by decide +kernel⟩, by decide⟩
abbrev mJ2_checkIndex_2214a : MethodName × ByteArray × Nat × Option FieldType := (yJ2_checkIndex_2214a, cJ2_checkIndex_2214a, 2, none)
set_option maxRecDepth 100000 in
theorem ms_J2_checkIndex_2214a : MS yJ2_checkIndex_2214a cJ2_checkIndex_2214a 2 none 2 := ⟨uu (i := 463) (by decide +kernel) rfl, uu (i := 123) (by decide +kernel) rfl, uu (i := 464) rfl rfl, ⟨by decide +kernel, by decide +kernel, by decide +kernel⟩, by decide⟩
abbrev mJ2_getChar_3b067 : MethodName × ByteArray × Nat × Option FieldType := (yJ2_getChar_3b067, cJ2_getChar_3b067, 2, (some .char))
set_option maxRecDepth 100000 in
theorem ms_J2_getChar_3b067 : MS yJ2_getChar_3b067 cJ2_getChar_3b067 2 (some .char) 2 := ⟨uu (i := 470) (by decide +kernel) rfl, uu (i := 123) (by decide +kernel) rfl, uu (i := 471) rfl rfl, ⟨by decide +kernel, by decide +kernel, by decide +kernel⟩, by decide⟩
abbrev mJ2_length_9d52b : MethodName × ByteArray × Nat × Option FieldType := (yJ2_length_9d52b, cJ2_length_9d52b, 1, (some .int))
set_option maxRecDepth 100000 in
theorem ms_J2_length_9d52b : MS yJ2_length_9d52b cJ2_length_9d52b 1 (some .int) 1 := ⟨uu (i := 466) (by decide +kernel) rfl, uu (i := 123) (by decide +kernel) rfl, uu (i := 467) rfl rfl, ⟨by decide +kernel, by decide +kernel, by decide +kernel⟩, by decide⟩
abbrev mJ3_checkIndex_8e157 : MethodName × ByteArray × Nat × Option FieldType := (yJ3_checkIndex_8e157, cJ3_checkIndex_8e157, 3, (some .int))
set_option maxRecDepth 100000 in
theorem ms_J3_checkIndex_8e157 : MS yJ3_checkIndex_8e157 cJ3_checkIndex_8e157 3 (some .int) 3 := ⟨uu (i := 457) (by decide +kernel) rfl, uu (i := 122) (by decide +kernel) rfl, uu (i := 458) rfl rfl, ⟨by decide +kernel, by decide +kernel, by decide +kernel⟩, by decide⟩
abbrev mJ6_bitCount_0f7a4 : MethodName × ByteArray × Nat × Option FieldType := (yJ6_bitCount_0f7a4, cJ6_bitCount_0f7a4, 1, (some .int))
set_option maxRecDepth 100000 in
theorem ms_J6_bitCount_0f7a4 : MS yJ6_bitCount_0f7a4 cJ6_bitCount_0f7a4 1 (some .int) 1 := ⟨uu (i := 1163) (by decide +kernel) rfl, uu (i := 131) (by decide +kernel) rfl, uu (i := 1164) rfl rfl, ⟨by decide +kernel, by decide +kernel, by decide +kernel⟩, by decide⟩
abbrev mJ7_fill_53178 : MethodName × ByteArray × Nat × Option FieldType := (yJ7_fill_53178, cJ7_fill_53178, 4, none)
set_option maxRecDepth 100000 in
theorem ms_J7_fill_53178 : MS yJ7_fill_53178 cJ7_fill_53178 4 none 2 := ⟨uu (i := 677) (by decide +kernel) rfl, uu (i := 128) (by decide +kernel) rfl, uu (i := 678) rfl rfl, ⟨by decide +kernel, by decide +kernel, by decide +kernel⟩, by decide⟩
abbrev mJ7_fill_fda19 : MethodName × ByteArray × Nat × Option FieldType := (yJ7_fill_fda19, cJ7_fill_fda19, 5, none)
set_option maxRecDepth 100000 in
theorem ms_J7_fill_fda19 : MS yJ7_fill_fda19 cJ7_fill_fda19 5 none 4 := ⟨uu (i := 1056) (by decide +kernel) rfl, uu (i := 128) (by decide +kernel) rfl, uu (i := 1057) rfl rfl, ⟨by decide +kernel, by decide +kernel, by decide +kernel⟩, by decide⟩
abbrev mJ7_rangeCheck_23922 : MethodName × ByteArray × Nat × Option FieldType := (yJ7_rangeCheck_23922, cJ7_rangeCheck_23922, 3, none)
set_option maxRecDepth 100000 in
theorem ms_J7_rangeCheck_23922 : MS yJ7_rangeCheck_23922 cJ7_rangeCheck_23922 3 none 3 := ⟨uu (i := 1059) (by decide +kernel) rfl, uu (i := 128) (by decide +kernel) rfl, uu (i := 1060) rfl rfl, ⟨by decide +kernel, by decide +kernel, by decide +kernel⟩, by decide⟩
abbrev mJ9_abs_0f7a4 : MethodName × ByteArray × Nat × Option FieldType := (yJ9_abs_0f7a4, cJ9_abs_0f7a4, 1, (some .int))
set_option maxRecDepth 100000 in
theorem ms_J9_abs_0f7a4 : MS yJ9_abs_0f7a4 cJ9_abs_0f7a4 1 (some .int) 1 := ⟨uu (i := 813) (by decide +kernel) rfl, uu (i := 129) (by decide +kernel) rfl, uu (i := 814) rfl rfl, ⟨by decide +kernel, by decide +kernel, by decide +kernel⟩, by decide⟩
abbrev mJ9_max_7cf53 : MethodName × ByteArray × Nat × Option FieldType := (yJ9_max_7cf53, cJ9_max_7cf53, 2, (some .int))
set_option maxRecDepth 100000 in
theorem ms_J9_max_7cf53 : MS yJ9_max_7cf53 cJ9_max_7cf53 2 (some .int) 2 := ⟨uu (i := 1007) (by decide +kernel) rfl, uu (i := 129) (by decide +kernel) rfl, uu (i := 1008) rfl rfl, ⟨by decide +kernel, by decide +kernel, by decide +kernel⟩, by decide⟩
abbrev mJ9_min_7cf53 : MethodName × ByteArray × Nat × Option FieldType := (yJ9_min_7cf53, cJ9_min_7cf53, 2, (some .int))
set_option maxRecDepth 100000 in
theorem ms_J9_min_7cf53 : MS yJ9_min_7cf53 cJ9_min_7cf53 2 (some .int) 2 := ⟨uu (i := 684) (by decide +kernel) rfl, uu (i := 129) (by decide +kernel) rfl, uu (i := 685) rfl rfl, ⟨by decide +kernel, by decide +kernel, by decide +kernel⟩, by decide⟩
abbrev mX0_balanceIf : MethodName × ByteArray × Nat × Option FieldType := (yX0_balanceIf, cX0_balanceIf, 6, (some .int))
set_option maxRecDepth 100000 in
theorem mv_X0_balanceIf : MV yX0_balanceIf cX0_balanceIf 6 (some .int) 3 := ⟨uu (i := 1051) (by decide +kernel) rfl, uu (i := 1052) (by decide +kernel) rfl, uu (i := 112) (by decide +kernel) rfl, uu (i := 1053) rfl rfl, ⟨by decide +kernel, by decide +kernel, by decide +kernel⟩, by decide⟩
abbrev mX0_balanceOn : MethodName × ByteArray × Nat × Option FieldType := (yX0_balanceOn, cX0_balanceOn, 5, (some .int))
set_option maxRecDepth 100000 in
theorem mv_X0_balanceOn : MV yX0_balanceOn cX0_balanceOn 5 (some .int) 2 := ⟨uu (i := 1104) (by decide +kernel) rfl, uu (i := 1105) (by decide +kernel) rfl, uu (i := 112) (by decide +kernel) rfl, uu (i := 1106) rfl rfl, ⟨by decide +kernel, by decide +kernel, by decide +kernel⟩, by decide⟩
abbrev mX0_canLend : MethodName × ByteArray × Nat × Option FieldType := (yX0_canLend, cX0_canLend, 6, (some .boolean))
set_option maxRecDepth 100000 in
theorem mv_X0_canLend : MV yX0_canLend cX0_canLend 6 (some .boolean) 5 := ⟨uu (i := 801) (by decide +kernel) rfl, uu (i := 802) (by decide +kernel) rfl, uu (i := 112) (by decide +kernel) rfl, uu (i := 803) rfl rfl, ⟨by decide +kernel, by decide +kernel, by decide +kernel⟩, by decide⟩
abbrev mX0_clear : MethodName × ByteArray × Nat × Option FieldType := (yX0_clear, cX0_clear, 1, none)
set_option maxRecDepth 100000 in
theorem mv_X0_clear : MV yX0_clear cX0_clear 1 none 0 := ⟨uu (i := 669) (by decide +kernel) rfl, uu (i := 670) (by decide +kernel) rfl, uu (i := 112) (by decide +kernel) rfl, uu (i := 671) rfl rfl, ⟨by decide +kernel, by decide +kernel, by decide +kernel⟩, by decide⟩
abbrev mX0_couldDo : MethodName × ByteArray × Nat × Option FieldType := (yX0_couldDo, cX0_couldDo, 3, (some .boolean))
set_option maxRecDepth 100000 in
theorem mv_X0_couldDo : MV yX0_couldDo cX0_couldDo 3 (some .boolean) 2 := ⟨uu (i := 974) (by decide +kernel) rfl, uu (i := 975) (by decide +kernel) rfl, uu (i := 112) (by decide +kernel) rfl, uu (i := 976) rfl rfl, ⟨by decide +kernel, by decide +kernel, by decide +kernel⟩, by decide⟩
abbrev mX0_creditBehind : MethodName × ByteArray × Nat × Option FieldType := (yX0_creditBehind, cX0_creditBehind, 8, (some .int))
set_option maxRecDepth 100000 in
theorem mv_X0_creditBehind : MV yX0_creditBehind cX0_creditBehind 8 (some .int) 3 := ⟨uu (i := 997) (by decide +kernel) rfl, uu (i := 998) (by decide +kernel) rfl, uu (i := 112) (by decide +kernel) rfl, uu (i := 999) rfl rfl, ⟨by decide +kernel, by decide +kernel, by decide +kernel⟩, by decide⟩
abbrev mX0_debtorOf : MethodName × ByteArray × Nat × Option FieldType := (yX0_debtorOf, cX0_debtorOf, 3, (some .int))
set_option maxRecDepth 100000 in
theorem mv_X0_debtorOf : MV yX0_debtorOf cX0_debtorOf 3 (some .int) 2 := ⟨uu (i := 956) (by decide +kernel) rfl, uu (i := 957) (by decide +kernel) rfl, uu (i := 112) (by decide +kernel) rfl, uu (i := 958) rfl rfl, ⟨by decide +kernel, by decide +kernel, by decide +kernel⟩, by decide⟩
abbrev mX0_earningsOf : MethodName × ByteArray × Nat × Option FieldType := (yX0_earningsOf, cX0_earningsOf, 6, (some .int))
set_option maxRecDepth 100000 in
theorem mv_X0_earningsOf : MV yX0_earningsOf cX0_earningsOf 6 (some .int) 3 := ⟨uu (i := 1022) (by decide +kernel) rfl, uu (i := 1023) (by decide +kernel) rfl, uu (i := 112) (by decide +kernel) rfl, uu (i := 1024) rfl rfl, ⟨by decide +kernel, by decide +kernel, by decide +kernel⟩, by decide⟩
abbrev mX0_finesOf : MethodName × ByteArray × Nat × Option FieldType := (yX0_finesOf, cX0_finesOf, 6, (some .int))
set_option maxRecDepth 100000 in
theorem mv_X0_finesOf : MV yX0_finesOf cX0_finesOf 6 (some .int) 3 := ⟨uu (i := 1014) (by decide +kernel) rfl, uu (i := 1015) (by decide +kernel) rfl, uu (i := 112) (by decide +kernel) rfl, uu (i := 1016) rfl rfl, ⟨by decide +kernel, by decide +kernel, by decide +kernel⟩, by decide⟩
abbrev mX0_hasDay : MethodName × ByteArray × Nat × Option FieldType := (yX0_hasDay, cX0_hasDay, 2, (some .boolean))
set_option maxRecDepth 100000 in
theorem mv_X0_hasDay : MV yX0_hasDay cX0_hasDay 2 (some .boolean) 1 := ⟨uu (i := 924) (by decide +kernel) rfl, uu (i := 925) (by decide +kernel) rfl, uu (i := 112) (by decide +kernel) rfl, uu (i := 926) rfl rfl, ⟨by decide +kernel, by decide +kernel, by decide +kernel⟩, by decide⟩
abbrev mX0_hasDayOrNone : MethodName × ByteArray × Nat × Option FieldType := (yX0_hasDayOrNone, cX0_hasDayOrNone, 2, (some .boolean))
set_option maxRecDepth 100000 in
theorem mv_X0_hasDayOrNone : MV yX0_hasDayOrNone cX0_hasDayOrNone 2 (some .boolean) 1 := ⟨uu (i := 993) (by decide +kernel) rfl, uu (i := 994) (by decide +kernel) rfl, uu (i := 112) (by decide +kernel) rfl, uu (i := 995) rfl rfl, ⟨by decide +kernel, by decide +kernel, by decide +kernel⟩, by decide⟩
abbrev mX0_hasDays : MethodName × ByteArray × Nat × Option FieldType := (yX0_hasDays, cX0_hasDays, 3, (some .boolean))
set_option maxRecDepth 100000 in
theorem mv_X0_hasDays : MV yX0_hasDays cX0_hasDays 3 (some .boolean) 2 := ⟨uu (i := 1127) (by decide +kernel) rfl, uu (i := 1128) (by decide +kernel) rfl, uu (i := 112) (by decide +kernel) rfl, uu (i := 1129) rfl rfl, ⟨by decide +kernel, by decide +kernel, by decide +kernel⟩, by decide⟩
abbrev mX0_hasMask : MethodName × ByteArray × Nat × Option FieldType := (yX0_hasMask, cX0_hasMask, 2, (some .boolean))
set_option maxRecDepth 100000 in
theorem mv_X0_hasMask : MV yX0_hasMask cX0_hasMask 2 (some .boolean) 1 := ⟨uu (i := 908) (by decide +kernel) rfl, uu (i := 909) (by decide +kernel) rfl, uu (i := 112) (by decide +kernel) rfl, uu (i := 910) rfl rfl, ⟨by decide +kernel, by decide +kernel, by decide +kernel⟩, by decide⟩
abbrev mX0_hasPerson : MethodName × ByteArray × Nat × Option FieldType := (yX0_hasPerson, cX0_hasPerson, 2, (some .boolean))
set_option maxRecDepth 100000 in
theorem mv_X0_hasPerson : MV yX0_hasPerson cX0_hasPerson 2 (some .boolean) 1 := ⟨uu (i := 912) (by decide +kernel) rfl, uu (i := 913) (by decide +kernel) rfl, uu (i := 112) (by decide +kernel) rfl, uu (i := 914) rfl rfl, ⟨by decide +kernel, by decide +kernel, by decide +kernel⟩, by decide⟩
abbrev mX0_hasPromise : MethodName × ByteArray × Nat × Option FieldType := (yX0_hasPromise, cX0_hasPromise, 2, (some .boolean))
set_option maxRecDepth 100000 in
theorem mv_X0_hasPromise : MV yX0_hasPromise cX0_hasPromise 2 (some .boolean) 1 := ⟨uu (i := 952) (by decide +kernel) rfl, uu (i := 953) (by decide +kernel) rfl, uu (i := 112) (by decide +kernel) rfl, uu (i := 954) rfl rfl, ⟨by decide +kernel, by decide +kernel, by decide +kernel⟩, by decide⟩
abbrev mX0_hasSighting : MethodName × ByteArray × Nat × Option FieldType := (yX0_hasSighting, cX0_hasSighting, 2, (some .boolean))
set_option maxRecDepth 100000 in
theorem mv_X0_hasSighting : MV yX0_hasSighting cX0_hasSighting 2 (some .boolean) 1 := ⟨uu (i := 1222) (by decide +kernel) rfl, uu (i := 1223) (by decide +kernel) rfl, uu (i := 112) (by decide +kernel) rfl, uu (i := 1224) rfl rfl, ⟨by decide +kernel, by decide +kernel, by decide +kernel⟩, by decide⟩
abbrev mX0_init : MethodName × ByteArray × Nat × Option FieldType := (yX0_init, cX0_init, 2, none)
set_option maxRecDepth 100000 in
theorem mi_X0_init : MI yX0_init cX0_init 2 0 := ⟨uu (i := 147) (by decide +kernel) rfl, uu (i := 112) (by decide +kernel) rfl, uu (i := 148) rfl rfl, ⟨by decide +kernel, by decide +kernel, by decide +kernel⟩, by decide, rfl⟩
abbrev mX0_isBeforeHandingOn : MethodName × ByteArray × Nat × Option FieldType := (yX0_isBeforeHandingOn, cX0_isBeforeHandingOn, 4, (some .boolean))
set_option maxRecDepth 100000 in
theorem mv_X0_isBeforeHandingOn : MV yX0_isBeforeHandingOn cX0_isBeforeHandingOn 4 (some .boolean) 2 := ⟨uu (i := 1117) (by decide +kernel) rfl, uu (i := 36) (by decide +kernel) rfl, uu (i := 112) (by decide +kernel) rfl, uu (i := 1118) rfl rfl, ⟨by decide +kernel, by decide +kernel, by decide +kernel⟩, by decide⟩
abbrev mX0_isDone : MethodName × ByteArray × Nat × Option FieldType := (yX0_isDone, cX0_isDone, 4, (some .boolean))
set_option maxRecDepth 100000 in
theorem mv_X0_isDone : MV yX0_isDone cX0_isDone 4 (some .boolean) 2 := ⟨uu (i := 965) (by decide +kernel) rfl, uu (i := 966) (by decide +kernel) rfl, uu (i := 112) (by decide +kernel) rfl, uu (i := 967) rfl rfl, ⟨by decide +kernel, by decide +kernel, by decide +kernel⟩, by decide⟩
abbrev mX0_isTold : MethodName × ByteArray × Nat × Option FieldType := (yX0_isTold, cX0_isTold, 1, (some .boolean))
set_option maxRecDepth 100000 in
theorem mv_X0_isTold : MV yX0_isTold cX0_isTold 1 (some .boolean) 0 := ⟨uu (i := 1030) (by decide +kernel) rfl, uu (i := 1031) (by decide +kernel) rfl, uu (i := 112) (by decide +kernel) rfl, uu (i := 1032) rfl rfl, ⟨by decide +kernel, by decide +kernel, by decide +kernel⟩, by decide⟩
abbrev mX0_leastDeposit : MethodName × ByteArray × Nat × Option FieldType := (yX0_leastDeposit, cX0_leastDeposit, 4, (some .int))
set_option maxRecDepth 100000 in
theorem mv_X0_leastDeposit : MV yX0_leastDeposit cX0_leastDeposit 4 (some .int) 1 := ⟨uu (i := 1112) (by decide +kernel) rfl, uu (i := 1113) (by decide +kernel) rfl, uu (i := 112) (by decide +kernel) rfl, uu (i := 1114) rfl rfl, ⟨by decide +kernel, by decide +kernel, by decide +kernel⟩, by decide⟩
abbrev mX0_priceOf : MethodName × ByteArray × Nat × Option FieldType := (yX0_priceOf, cX0_priceOf, 8, (some .int))
set_option maxRecDepth 100000 in
theorem mv_X0_priceOf : MV yX0_priceOf cX0_priceOf 8 (some .int) 4 := ⟨uu (i := 1132) (by decide +kernel) rfl, uu (i := 1133) (by decide +kernel) rfl, uu (i := 112) (by decide +kernel) rfl, uu (i := 1134) rfl rfl, ⟨by decide +kernel, by decide +kernel, by decide +kernel⟩, by decide⟩
abbrev mX0_suits : MethodName × ByteArray × Nat × Option FieldType := (yX0_suits, cX0_suits, 3, (some .boolean))
set_option maxRecDepth 100000 in
theorem mv_X0_suits : MV yX0_suits cX0_suits 3 (some .boolean) 2 := ⟨uu (i := 805) (by decide +kernel) rfl, uu (i := 806) (by decide +kernel) rfl, uu (i := 112) (by decide +kernel) rfl, uu (i := 807) rfl rfl, ⟨by decide +kernel, by decide +kernel, by decide +kernel⟩, by decide⟩
abbrev mX0_wouldDo : MethodName × ByteArray × Nat × Option FieldType := (yX0_wouldDo, cX0_wouldDo, 6, (some .boolean))
set_option maxRecDepth 100000 in
theorem mv_X0_wouldDo : MV yX0_wouldDo cX0_wouldDo 6 (some .boolean) 2 := ⟨uu (i := 970) (by decide +kernel) rfl, uu (i := 971) (by decide +kernel) rfl, uu (i := 112) (by decide +kernel) rfl, uu (i := 972) rfl rfl, ⟨by decide +kernel, by decide +kernel, by decide +kernel⟩, by decide⟩
abbrev mX10_all : MethodName × ByteArray × Nat × Option FieldType := (yX10_all, cX10_all, 1, (some .int))
set_option maxRecDepth 100000 in
theorem mv_X10_all : MV yX10_all cX10_all 1 (some .int) 0 := ⟨uu (i := 1189) (by decide +kernel) rfl, uu (i := 1190) (by decide +kernel) rfl, uu (i := 126) (by decide +kernel) rfl, uu (i := 1191) rfl rfl, ⟨by decide +kernel, by decide +kernel, by decide +kernel⟩, by decide⟩
abbrev mX10_allWith : MethodName × ByteArray × Nat × Option FieldType := (yX10_allWith, cX10_allWith, 5, (some .int))
set_option maxRecDepth 100000 in
theorem mv_X10_allWith : MV yX10_allWith cX10_allWith 5 (some .int) 2 := ⟨uu (i := 1197) (by decide +kernel) rfl, uu (i := 1198) (by decide +kernel) rfl, uu (i := 126) (by decide +kernel) rfl, uu (i := 1199) rfl rfl, ⟨by decide +kernel, by decide +kernel, by decide +kernel⟩, by decide⟩
abbrev mX10_arrange : MethodName × ByteArray × Nat × Option FieldType := (yX10_arrange, cX10_arrange, 3, none)
set_option maxRecDepth 100000 in
theorem mv_X10_arrange : MV yX10_arrange cX10_arrange 3 none 1 := ⟨uu (i := 1182) (by decide +kernel) rfl, uu (i := 42) (by decide +kernel) rfl, uu (i := 126) (by decide +kernel) rfl, uu (i := 1183) rfl rfl, ⟨by decide +kernel, by decide +kernel, by decide +kernel⟩, by decide⟩
abbrev mX10_holdsWithout : MethodName × ByteArray × Nat × Option FieldType := (yX10_holdsWithout, cX10_holdsWithout, 3, (some .boolean))
set_option maxRecDepth 100000 in
theorem mv_X10_holdsWithout : MV yX10_holdsWithout cX10_holdsWithout 3 (some .boolean) 1 := ⟨uu (i := 1170) (by decide +kernel) rfl, uu (i := 40) (by decide +kernel) rfl, uu (i := 126) (by decide +kernel) rfl, uu (i := 1171) rfl rfl, ⟨by decide +kernel, by decide +kernel, by decide +kernel⟩, by decide⟩
abbrev mX10_init : MethodName × ByteArray × Nat × Option FieldType := (yX10_init, cX10_init, 1, none)
set_option maxRecDepth 100000 in
theorem mi_X10_init : MI yX10_init cX10_init 1 0 := ⟨uu (i := 581) (by decide +kernel) rfl, uu (i := 126) (by decide +kernel) rfl, uu (i := 582) rfl rfl, ⟨by decide +kernel, by decide +kernel, by decide +kernel⟩, by decide, rfl⟩
abbrev mX10_isTwiceAtOnce : MethodName × ByteArray × Nat × Option FieldType := (yX10_isTwiceAtOnce, cX10_isTwiceAtOnce, 4, (some .boolean))
set_option maxRecDepth 100000 in
theorem mv_X10_isTwiceAtOnce : MV yX10_isTwiceAtOnce cX10_isTwiceAtOnce 4 (some .boolean) 1 := ⟨uu (i := 1174) (by decide +kernel) rfl, uu (i := 41) (by decide +kernel) rfl, uu (i := 126) (by decide +kernel) rfl, uu (i := 1175) rfl rfl, ⟨by decide +kernel, by decide +kernel, by decide +kernel⟩, by decide⟩
abbrev mX10_keepPartners : MethodName × ByteArray × Nat × Option FieldType := (yX10_keepPartners, cX10_keepPartners, 5, none)
set_option maxRecDepth 100000 in
theorem mv_X10_keepPartners : MV yX10_keepPartners cX10_keepPartners 5 none 2 := ⟨uu (i := 1246) (by decide +kernel) rfl, uu (i := 46) (by decide +kernel) rfl, uu (i := 126) (by decide +kernel) rfl, uu (i := 1247) rfl rfl, ⟨by decide +kernel, by decide +kernel, by decide +kernel⟩, by decide⟩
abbrev mX10_letterDays : MethodName × ByteArray × Nat × Option FieldType := (yX10_letterDays, cX10_letterDays, 7, (some .int))
set_option maxRecDepth 100000 in
theorem mv_X10_letterDays : MV yX10_letterDays cX10_letterDays 7 (some .int) 2 := ⟨uu (i := 1240) (by decide +kernel) rfl, uu (i := 45) (by decide +kernel) rfl, uu (i := 126) (by decide +kernel) rfl, uu (i := 1241) rfl rfl, ⟨by decide +kernel, by decide +kernel, by decide +kernel⟩, by decide⟩
abbrev mX10_look : MethodName × ByteArray × Nat × Option FieldType := (yX10_look, cX10_look, 6, none)
set_option maxRecDepth 100000 in
theorem mv_X10_look : MV yX10_look cX10_look 6 none 3 := ⟨uu (i := 1140) (by decide +kernel) rfl, uu (i := 1141) (by decide +kernel) rfl, uu (i := 126) (by decide +kernel) rfl, uu (i := 1142) rfl rfl, ⟨by decide +kernel, by decide +kernel, by decide +kernel⟩, by decide⟩
abbrev mX10_note : MethodName × ByteArray × Nat × Option FieldType := (yX10_note, cX10_note, 4, none)
set_option maxRecDepth 100000 in
theorem mv_X10_note : MV yX10_note cX10_note 4 none 2 := ⟨uu (i := 1145) (by decide +kernel) rfl, uu (i := 37) (by decide +kernel) rfl, uu (i := 126) (by decide +kernel) rfl, uu (i := 1146) rfl rfl, ⟨by decide +kernel, by decide +kernel, by decide +kernel⟩, by decide⟩
abbrev mX10_ofPair : MethodName × ByteArray × Nat × Option FieldType := (yX10_ofPair, cX10_ofPair, 6, (some .int))
set_option maxRecDepth 100000 in
theorem mv_X10_ofPair : MV yX10_ofPair cX10_ofPair 6 (some .int) 2 := ⟨uu (i := 1258) (by decide +kernel) rfl, uu (i := 1259) (by decide +kernel) rfl, uu (i := 126) (by decide +kernel) rfl, uu (i := 1260) rfl rfl, ⟨by decide +kernel, by decide +kernel, by decide +kernel⟩, by decide⟩
abbrev mX10_pair : MethodName × ByteArray × Nat × Option FieldType := (yX10_pair, cX10_pair, 7, none)
set_option maxRecDepth 100000 in
theorem mv_X10_pair : MV yX10_pair cX10_pair 7 none 4 := ⟨uu (i := 1235) (by decide +kernel) rfl, uu (i := 1236) (by decide +kernel) rfl, uu (i := 126) (by decide +kernel) rfl, uu (i := 1237) rfl rfl, ⟨by decide +kernel, by decide +kernel, by decide +kernel⟩, by decide⟩
abbrev mX10_pairCount : MethodName × ByteArray × Nat × Option FieldType := (yX10_pairCount, cX10_pairCount, 3, (some .int))
set_option maxRecDepth 100000 in
theorem mv_X10_pairCount : MV yX10_pairCount cX10_pairCount 3 (some .int) 0 := ⟨uu (i := 1250) (by decide +kernel) rfl, uu (i := 1251) (by decide +kernel) rfl, uu (i := 126) (by decide +kernel) rfl, uu (i := 1252) rfl rfl, ⟨by decide +kernel, by decide +kernel, by decide +kernel⟩, by decide⟩
abbrev mX10_personsFor : MethodName × ByteArray × Nat × Option FieldType := (yX10_personsFor, cX10_personsFor, 4, (some .int))
set_option maxRecDepth 100000 in
theorem mv_X10_personsFor : MV yX10_personsFor cX10_personsFor 4 (some .int) 1 := ⟨uu (i := 1150) (by decide +kernel) rfl, uu (i := 38) (by decide +kernel) rfl, uu (i := 126) (by decide +kernel) rfl, uu (i := 1151) rfl rfl, ⟨by decide +kernel, by decide +kernel, by decide +kernel⟩, by decide⟩
abbrev mX10_personsIn : MethodName × ByteArray × Nat × Option FieldType := (yX10_personsIn, cX10_personsIn, 4, (some .int))
set_option maxRecDepth 100000 in
theorem mv_X10_personsIn : MV yX10_personsIn cX10_personsIn 4 (some .int) 1 := ⟨uu (i := 1209) (by decide +kernel) rfl, uu (i := 1210) (by decide +kernel) rfl, uu (i := 126) (by decide +kernel) rfl, uu (i := 1211) rfl rfl, ⟨by decide +kernel, by decide +kernel, by decide +kernel⟩, by decide⟩
abbrev mX10_personsLike : MethodName × ByteArray × Nat × Option FieldType := (yX10_personsLike, cX10_personsLike, 4, (some .int))
set_option maxRecDepth 100000 in
theorem mv_X10_personsLike : MV yX10_personsLike cX10_personsLike 4 (some .int) 1 := ⟨uu (i := 1155) (by decide +kernel) rfl, uu (i := 39) (by decide +kernel) rfl, uu (i := 126) (by decide +kernel) rfl, uu (i := 1156) rfl rfl, ⟨by decide +kernel, by decide +kernel, by decide +kernel⟩, by decide⟩
abbrev mX10_ways : MethodName × ByteArray × Nat × Option FieldType := (yX10_ways, cX10_ways, 6, (some .int))
set_option maxRecDepth 100000 in
theorem mv_X10_ways : MV yX10_ways cX10_ways 6 (some .int) 2 := ⟨uu (i := 1186) (by decide +kernel) rfl, uu (i := 43) (by decide +kernel) rfl, uu (i := 126) (by decide +kernel) rfl, uu (i := 1187) rfl rfl, ⟨by decide +kernel, by decide +kernel, by decide +kernel⟩, by decide⟩
abbrev mX11_admit : MethodName × ByteArray × Nat × Option FieldType := (yX11_admit, cX11_admit, 3, (some .boolean))
set_option maxRecDepth 100000 in
theorem mv_X11_admit : MV yX11_admit cX11_admit 3 (some .boolean) 2 := ⟨uu (i := 662) (by decide +kernel) rfl, uu (i := 2) (by decide +kernel) rfl, uu (i := 111) (by decide +kernel) rfl, uu (i := 663) rfl rfl, ⟨by decide +kernel, by decide +kernel, by decide +kernel⟩, by decide⟩
abbrev mX11_agrees : MethodName × ByteArray × Nat × Option FieldType := (yX11_agrees, cX11_agrees, 4, (some .int))
set_option maxRecDepth 100000 in
theorem mv_X11_agrees : MV yX11_agrees cX11_agrees 4 (some .int) 2 := ⟨uu (i := 1218) (by decide +kernel) rfl, uu (i := 1219) (by decide +kernel) rfl, uu (i := 111) (by decide +kernel) rfl, uu (i := 1220) rfl rfl, ⟨by decide +kernel, by decide +kernel, by decide +kernel⟩, by decide⟩
abbrev mX11_areTwoMasks : MethodName × ByteArray × Nat × Option FieldType := (yX11_areTwoMasks, cX11_areTwoMasks, 3, (some .boolean))
set_option maxRecDepth 100000 in
theorem mv_X11_areTwoMasks : MV yX11_areTwoMasks cX11_areTwoMasks 3 (some .boolean) 2 := ⟨uu (i := 1232) (by decide +kernel) rfl, uu (i := 44) (by decide +kernel) rfl, uu (i := 111) (by decide +kernel) rfl, uu (i := 1233) rfl rfl, ⟨by decide +kernel, by decide +kernel, by decide +kernel⟩, by decide⟩
abbrev mX11_asNumber : MethodName × ByteArray × Nat × Option FieldType := (yX11_asNumber, cX11_asNumber, 1, (some .int))
set_option maxRecDepth 100000 in
theorem ms_X11_asNumber : MS yX11_asNumber cX11_asNumber 1 (some .int) 1 := ⟨uu (i := 917) (by decide +kernel) rfl, uu (i := 111) (by decide +kernel) rfl, uu (i := 918) rfl rfl, ⟨by decide +kernel, by decide +kernel, by decide +kernel⟩, by decide⟩
abbrev mX11_ask : MethodName × ByteArray × Nat × Option FieldType := (yX11_ask, cX11_ask, 5, (some .int))
set_option maxRecDepth 100000 in
theorem mv_X11_ask : MV yX11_ask cX11_ask 5 (some .int) 4 := ⟨uu (i := 1123) (by decide +kernel) rfl, uu (i := 1124) (by decide +kernel) rfl, uu (i := 111) (by decide +kernel) rfl, uu (i := 1125) rfl rfl, ⟨by decide +kernel, by decide +kernel, by decide +kernel⟩, by decide⟩
abbrev mX11_back : MethodName × ByteArray × Nat × Option FieldType := (yX11_back, cX11_back, 2, (some .boolean))
set_option maxRecDepth 100000 in
theorem mv_X11_back : MV yX11_back cX11_back 2 (some .boolean) 1 := ⟨uu (i := 1319) (by decide +kernel) rfl, uu (i := 1320) (by decide +kernel) rfl, uu (i := 111) (by decide +kernel) rfl, uu (i := 1321) rfl rfl, ⟨by decide +kernel, by decide +kernel, by decide +kernel⟩, by decide⟩
abbrev mX11_book : MethodName × ByteArray × Nat × Option FieldType := (yX11_book, cX11_book, 4, (some .int))
set_option maxRecDepth 100000 in
theorem mv_X11_book : MV yX11_book cX11_book 4 (some .int) 1 := ⟨uu (i := 657) (by decide +kernel) rfl, uu (i := 658) (by decide +kernel) rfl, uu (i := 111) (by decide +kernel) rfl, uu (i := 659) rfl rfl, ⟨by decide +kernel, by decide +kernel, by decide +kernel⟩, by decide⟩
abbrev mX11_breaking : MethodName × ByteArray × Nat × Option FieldType := (yX11_breaking, cX11_breaking, 4, (some .boolean))
set_option maxRecDepth 100000 in
theorem mv_X11_breaking : MV yX11_breaking cX11_breaking 4 (some .boolean) 3 := ⟨uu (i := 1290) (by decide +kernel) rfl, uu (i := 1291) (by decide +kernel) rfl, uu (i := 111) (by decide +kernel) rfl, uu (i := 1292) rfl rfl, ⟨by decide +kernel, by decide +kernel, by decide +kernel⟩, by decide⟩
abbrev mX11_breaks : MethodName × ByteArray × Nat × Option FieldType := (yX11_breaks, cX11_breaks, 3, (some .int))
set_option maxRecDepth 100000 in
theorem mv_X11_breaks : MV yX11_breaks cX11_breaks 3 (some .int) 2 := ⟨uu (i := 1034) (by decide +kernel) rfl, uu (i := 1035) (by decide +kernel) rfl, uu (i := 111) (by decide +kernel) rfl, uu (i := 1036) rfl rfl, ⟨by decide +kernel, by decide +kernel, by decide +kernel⟩, by decide⟩
abbrev mX11_commonDivisor : MethodName × ByteArray × Nat × Option FieldType := (yX11_commonDivisor, cX11_commonDivisor, 6, (some .int))
set_option maxRecDepth 100000 in
theorem ms_X11_commonDivisor : MS yX11_commonDivisor cX11_commonDivisor 6 (some .int) 2 := ⟨uu (i := 1201) (by decide +kernel) rfl, uu (i := 111) (by decide +kernel) rfl, uu (i := 1202) rfl rfl, ⟨by decide +kernel, by decide +kernel, by decide +kernel⟩, by decide⟩
abbrev mX11_credit : MethodName × ByteArray × Nat × Option FieldType := (yX11_credit, cX11_credit, 3, (some .int))
set_option maxRecDepth 100000 in
theorem mv_X11_credit : MV yX11_credit cX11_credit 3 (some .int) 2 := ⟨uu (i := 989) (by decide +kernel) rfl, uu (i := 990) (by decide +kernel) rfl, uu (i := 111) (by decide +kernel) rfl, uu (i := 991) rfl rfl, ⟨by decide +kernel, by decide +kernel, by decide +kernel⟩, by decide⟩
abbrev mX11_debt : MethodName × ByteArray × Nat × Option FieldType := (yX11_debt, cX11_debt, 3, (some .int))
set_option maxRecDepth 100000 in
theorem mv_X11_debt : MV yX11_debt cX11_debt 3 (some .int) 2 := ⟨uu (i := 1010) (by decide +kernel) rfl, uu (i := 1011) (by decide +kernel) rfl, uu (i := 111) (by decide +kernel) rfl, uu (i := 1012) rfl rfl, ⟨by decide +kernel, by decide +kernel, by decide +kernel⟩, by decide⟩
abbrev mX11_done : MethodName × ByteArray × Nat × Option FieldType := (yX11_done, cX11_done, 2, (some .int))
set_option maxRecDepth 100000 in
theorem mv_X11_done : MV yX11_done cX11_done 2 (some .int) 1 := ⟨uu (i := 961) (by decide +kernel) rfl, uu (i := 962) (by decide +kernel) rfl, uu (i := 111) (by decide +kernel) rfl, uu (i := 963) rfl rfl, ⟨by decide +kernel, by decide +kernel, by decide +kernel⟩, by decide⟩
abbrev mX11_fault : MethodName × ByteArray × Nat × Option FieldType := (yX11_fault, cX11_fault, 1, (some .int))
set_option maxRecDepth 100000 in
theorem mv_X11_fault : MV yX11_fault cX11_fault 1 (some .int) 0 := ⟨uu (i := 896) (by decide +kernel) rfl, uu (i := 897) (by decide +kernel) rfl, uu (i := 111) (by decide +kernel) rfl, uu (i := 898) rfl rfl, ⟨by decide +kernel, by decide +kernel, by decide +kernel⟩, by decide⟩
abbrev mX11_feed : MethodName × ByteArray × Nat × Option FieldType := (yX11_feed, cX11_feed, 6, (some .int))
set_option maxRecDepth 100000 in
theorem mv_X11_feed : MV yX11_feed cX11_feed 6 (some .int) 5 := ⟨uu (i := 649) (by decide +kernel) rfl, uu (i := 650) (by decide +kernel) rfl, uu (i := 111) (by decide +kernel) rfl, uu (i := 651) rfl rfl, ⟨by decide +kernel, by decide +kernel, by decide +kernel⟩, by decide⟩
abbrev mX11_fits : MethodName × ByteArray × Nat × Option FieldType := (yX11_fits, cX11_fits, 3, (some .int))
set_option maxRecDepth 100000 in
theorem mv_X11_fits : MV yX11_fits cX11_fits 3 (some .int) 2 := ⟨uu (i := 904) (by decide +kernel) rfl, uu (i := 905) (by decide +kernel) rfl, uu (i := 111) (by decide +kernel) rfl, uu (i := 906) rfl rfl, ⟨by decide +kernel, by decide +kernel, by decide +kernel⟩, by decide⟩
abbrev mX11_gain : MethodName × ByteArray × Nat × Option FieldType := (yX11_gain, cX11_gain, 3, (some .int))
set_option maxRecDepth 100000 in
theorem mv_X11_gain : MV yX11_gain cX11_gain 3 (some .int) 2 := ⟨uu (i := 1018) (by decide +kernel) rfl, uu (i := 1019) (by decide +kernel) rfl, uu (i := 111) (by decide +kernel) rfl, uu (i := 1020) rfl rfl, ⟨by decide +kernel, by decide +kernel, by decide +kernel⟩, by decide⟩
abbrev mX11_give : MethodName × ByteArray × Nat × Option FieldType := (yX11_give, cX11_give, 4, (some .boolean))
set_option maxRecDepth 100000 in
theorem mv_X11_give : MV yX11_give cX11_give 4 (some .boolean) 2 := ⟨uu (i := 1274) (by decide +kernel) rfl, uu (i := 1275) (by decide +kernel) rfl, uu (i := 111) (by decide +kernel) rfl, uu (i := 1276) rfl rfl, ⟨by decide +kernel, by decide +kernel, by decide +kernel⟩, by decide⟩
abbrev mX11_guild : MethodName × ByteArray × Nat × Option FieldType := (yX11_guild, cX11_guild, 1, (some .int))
set_option maxRecDepth 100000 in
theorem mv_X11_guild : MV yX11_guild cX11_guild 1 (some .int) 0 := ⟨uu (i := 1026) (by decide +kernel) rfl, uu (i := 1027) (by decide +kernel) rfl, uu (i := 111) (by decide +kernel) rfl, uu (i := 1028) rfl rfl, ⟨by decide +kernel, by decide +kernel, by decide +kernel⟩, by decide⟩
abbrev mX11_image : MethodName × ByteArray × Nat × Option FieldType := (yX11_image, cX11_image, 1, (some .int))
set_option maxRecDepth 100000 in
theorem mv_X11_image : MV yX11_image cX11_image 1 (some .int) 0 := ⟨uu (i := 1311) (by decide +kernel) rfl, uu (i := 1312) (by decide +kernel) rfl, uu (i := 111) (by decide +kernel) rfl, uu (i := 1313) rfl rfl, ⟨by decide +kernel, by decide +kernel, by decide +kernel⟩, by decide⟩
abbrev mX11_init : MethodName × ByteArray × Nat × Option FieldType := (yX11_init, cX11_init, 1, none)
set_option maxRecDepth 100000 in
theorem mi_X11_init : MI yX11_init cX11_init 1 0 := ⟨uu (i := 139) (by decide +kernel) rfl, uu (i := 111) (by decide +kernel) rfl, uu (i := 140) rfl rfl, ⟨by decide +kernel, by decide +kernel, by decide +kernel⟩, by decide, rfl⟩
abbrev mX11_led : MethodName × ByteArray × Nat × Option FieldType := (yX11_led, cX11_led, 5, (some .int))
set_option maxRecDepth 100000 in
theorem mv_X11_led : MV yX11_led cX11_led 5 (some .int) 2 := ⟨uu (i := 1349) (by decide +kernel) rfl, uu (i := 1350) (by decide +kernel) rfl, uu (i := 111) (by decide +kernel) rfl, uu (i := 1351) rfl rfl, ⟨by decide +kernel, by decide +kernel, by decide +kernel⟩, by decide⟩
abbrev mX11_lend : MethodName × ByteArray × Nat × Option FieldType := (yX11_lend, cX11_lend, 5, (some .boolean))
set_option maxRecDepth 100000 in
theorem mv_X11_lend : MV yX11_lend cX11_lend 5 (some .boolean) 4 := ⟨uu (i := 1262) (by decide +kernel) rfl, uu (i := 1263) (by decide +kernel) rfl, uu (i := 111) (by decide +kernel) rfl, uu (i := 1264) rfl rfl, ⟨by decide +kernel, by decide +kernel, by decide +kernel⟩, by decide⟩
abbrev mX11_lending : MethodName × ByteArray × Nat × Option FieldType := (yX11_lending, cX11_lending, 4, (some .int))
set_option maxRecDepth 100000 in
theorem mv_X11_lending : MV yX11_lending cX11_lending 4 (some .int) 2 := ⟨uu (i := 1323) (by decide +kernel) rfl, uu (i := 1324) (by decide +kernel) rfl, uu (i := 111) (by decide +kernel) rfl, uu (i := 1325) rfl rfl, ⟨by decide +kernel, by decide +kernel, by decide +kernel⟩, by decide⟩
abbrev mX11_lover : MethodName × ByteArray × Nat × Option FieldType := (yX11_lover, cX11_lover, 5, (some .int))
set_option maxRecDepth 100000 in
theorem mv_X11_lover : MV yX11_lover cX11_lover 5 (some .int) 4 := ⟨uu (i := 1254) (by decide +kernel) rfl, uu (i := 1255) (by decide +kernel) rfl, uu (i := 111) (by decide +kernel) rfl, uu (i := 1256) rfl rfl, ⟨by decide +kernel, by decide +kernel, by decide +kernel⟩, by decide⟩
abbrev mX11_lovers : MethodName × ByteArray × Nat × Option FieldType := (yX11_lovers, cX11_lovers, 3, (some .int))
set_option maxRecDepth 100000 in
theorem mv_X11_lovers : MV yX11_lovers cX11_lovers 3 (some .int) 2 := ⟨uu (i := 1227) (by decide +kernel) rfl, uu (i := 1228) (by decide +kernel) rfl, uu (i := 111) (by decide +kernel) rfl, uu (i := 1229) rfl rfl, ⟨by decide +kernel, by decide +kernel, by decide +kernel⟩, by decide⟩
abbrev mX11_mask : MethodName × ByteArray × Nat × Option FieldType := (yX11_mask, cX11_mask, 3, (some .int))
set_option maxRecDepth 100000 in
theorem mv_X11_mask : MV yX11_mask cX11_mask 3 (some .int) 2 := ⟨uu (i := 1329) (by decide +kernel) rfl, uu (i := 1330) (by decide +kernel) rfl, uu (i := 111) (by decide +kernel) rfl, uu (i := 1331) rfl rfl, ⟨by decide +kernel, by decide +kernel, by decide +kernel⟩, by decide⟩
abbrev mX11_may : MethodName × ByteArray × Nat × Option FieldType := (yX11_may, cX11_may, 3, (some .int))
set_option maxRecDepth 100000 in
theorem mv_X11_may : MV yX11_may cX11_may 3 (some .int) 2 := ⟨uu (i := 1205) (by decide +kernel) rfl, uu (i := 1206) (by decide +kernel) rfl, uu (i := 111) (by decide +kernel) rfl, uu (i := 1207) rfl rfl, ⟨by decide +kernel, by decide +kernel, by decide +kernel⟩, by decide⟩
abbrev mX11_needed : MethodName × ByteArray × Nat × Option FieldType := (yX11_needed, cX11_needed, 3, (some .int))
set_option maxRecDepth 100000 in
theorem mv_X11_needed : MV yX11_needed cX11_needed 3 (some .int) 2 := ⟨uu (i := 1091) (by decide +kernel) rfl, uu (i := 1092) (by decide +kernel) rfl, uu (i := 111) (by decide +kernel) rfl, uu (i := 1093) rfl rfl, ⟨by decide +kernel, by decide +kernel, by decide +kernel⟩, by decide⟩
abbrev mX11_odds : MethodName × ByteArray × Nat × Option FieldType := (yX11_odds, cX11_odds, 8, (some .int))
set_option maxRecDepth 100000 in
theorem mv_X11_odds : MV yX11_odds cX11_odds 8 (some .int) 4 := ⟨uu (i := 1193) (by decide +kernel) rfl, uu (i := 1194) (by decide +kernel) rfl, uu (i := 111) (by decide +kernel) rfl, uu (i := 1195) rfl rfl, ⟨by decide +kernel, by decide +kernel, by decide +kernel⟩, by decide⟩
abbrev mX11_owes : MethodName × ByteArray × Nat × Option FieldType := (yX11_owes, cX11_owes, 2, (some .int))
set_option maxRecDepth 100000 in
theorem mv_X11_owes : MV yX11_owes cX11_owes 2 (some .int) 1 := ⟨uu (i := 948) (by decide +kernel) rfl, uu (i := 949) (by decide +kernel) rfl, uu (i := 111) (by decide +kernel) rfl, uu (i := 950) rfl rfl, ⟨by decide +kernel, by decide +kernel, by decide +kernel⟩, by decide⟩
abbrev mX11_pass : MethodName × ByteArray × Nat × Option FieldType := (yX11_pass, cX11_pass, 8, (some .boolean))
set_option maxRecDepth 100000 in
theorem mv_X11_pass : MV yX11_pass cX11_pass 8 (some .boolean) 3 := ⟨uu (i := 1283) (by decide +kernel) rfl, uu (i := 1284) (by decide +kernel) rfl, uu (i := 111) (by decide +kernel) rfl, uu (i := 1285) rfl rfl, ⟨by decide +kernel, by decide +kernel, by decide +kernel⟩, by decide⟩
abbrev mX11_person : MethodName × ByteArray × Nat × Option FieldType := (yX11_person, cX11_person, 4, (some .int))
set_option maxRecDepth 100000 in
theorem mv_X11_person : MV yX11_person cX11_person 4 (some .int) 2 := ⟨uu (i := 1333) (by decide +kernel) rfl, uu (i := 1334) (by decide +kernel) rfl, uu (i := 111) (by decide +kernel) rfl, uu (i := 1335) rfl rfl, ⟨by decide +kernel, by decide +kernel, by decide +kernel⟩, by decide⟩
abbrev mX11_plan : MethodName × ByteArray × Nat × Option FieldType := (yX11_plan, cX11_plan, 3, (some .int))
set_option maxRecDepth 100000 in
theorem mv_X11_plan : MV yX11_plan cX11_plan 3 (some .int) 2 := ⟨uu (i := 1079) (by decide +kernel) rfl, uu (i := 1080) (by decide +kernel) rfl, uu (i := 111) (by decide +kernel) rfl, uu (i := 1081) rfl rfl, ⟨by decide +kernel, by decide +kernel, by decide +kernel⟩, by decide⟩
abbrev mX11_putOnTape : MethodName × ByteArray × Nat × Option FieldType := (yX11_putOnTape, cX11_putOnTape, 3, none)
set_option maxRecDepth 100000 in
theorem mv_X11_putOnTape : MV yX11_putOnTape cX11_putOnTape 3 none 1 := ⟨uu (i := 654) (by decide +kernel) rfl, uu (i := 1) (by decide +kernel) rfl, uu (i := 111) (by decide +kernel) rfl, uu (i := 655) rfl rfl, ⟨by decide +kernel, by decide +kernel, by decide +kernel⟩, by decide⟩
abbrev mX11_real : MethodName × ByteArray × Nat × Option FieldType := (yX11_real, cX11_real, 2, (some .int))
set_option maxRecDepth 100000 in
theorem mv_X11_real : MV yX11_real cX11_real 2 (some .int) 1 := ⟨uu (i := 1100) (by decide +kernel) rfl, uu (i := 1101) (by decide +kernel) rfl, uu (i := 111) (by decide +kernel) rfl, uu (i := 1102) rfl rfl, ⟨by decide +kernel, by decide +kernel, by decide +kernel⟩, by decide⟩
abbrev mX11_redo : MethodName × ByteArray × Nat × Option FieldType := (yX11_redo, cX11_redo, 1, (some .boolean))
set_option maxRecDepth 100000 in
theorem mv_X11_redo : MV yX11_redo cX11_redo 1 (some .boolean) 0 := ⟨uu (i := 1303) (by decide +kernel) rfl, uu (i := 1304) (by decide +kernel) rfl, uu (i := 111) (by decide +kernel) rfl, uu (i := 1305) rfl rfl, ⟨by decide +kernel, by decide +kernel, by decide +kernel⟩, by decide⟩
abbrev mX11_refuse : MethodName × ByteArray × Nat × Option FieldType := (yX11_refuse, cX11_refuse, 2, (some .boolean))
set_option maxRecDepth 100000 in
theorem mv_X11_refuse : MV yX11_refuse cX11_refuse 2 (some .boolean) 1 := ⟨uu (i := 878) (by decide +kernel) rfl, uu (i := 30) (by decide +kernel) rfl, uu (i := 111) (by decide +kernel) rfl, uu (i := 879) rfl rfl, ⟨by decide +kernel, by decide +kernel, by decide +kernel⟩, by decide⟩
abbrev mX11_size : MethodName × ByteArray × Nat × Option FieldType := (yX11_size, cX11_size, 2, (some .int))
set_option maxRecDepth 100000 in
theorem mv_X11_size : MV yX11_size cX11_size 2 (some .int) 1 := ⟨uu (i := 1337) (by decide +kernel) rfl, uu (i := 1338) (by decide +kernel) rfl, uu (i := 111) (by decide +kernel) rfl, uu (i := 1339) rfl rfl, ⟨by decide +kernel, by decide +kernel, by decide +kernel⟩, by decide⟩
abbrev mX11_terms : MethodName × ByteArray × Nat × Option FieldType := (yX11_terms, cX11_terms, 1, (some .int))
set_option maxRecDepth 100000 in
theorem mv_X11_terms : MV yX11_terms cX11_terms 1 (some .int) 0 := ⟨uu (i := 1108) (by decide +kernel) rfl, uu (i := 1109) (by decide +kernel) rfl, uu (i := 111) (by decide +kernel) rfl, uu (i := 1110) rfl rfl, ⟨by decide +kernel, by decide +kernel, by decide +kernel⟩, by decide⟩
abbrev mX11_trouble : MethodName × ByteArray × Nat × Option FieldType := (yX11_trouble, cX11_trouble, 1, (some .int))
set_option maxRecDepth 100000 in
theorem mv_X11_trouble : MV yX11_trouble cX11_trouble 1 (some .int) 0 := ⟨uu (i := 1341) (by decide +kernel) rfl, uu (i := 1342) (by decide +kernel) rfl, uu (i := 111) (by decide +kernel) rfl, uu (i := 1343) rfl rfl, ⟨by decide +kernel, by decide +kernel, by decide +kernel⟩, by decide⟩
abbrev mX11_undo : MethodName × ByteArray × Nat × Option FieldType := (yX11_undo, cX11_undo, 1, (some .boolean))
set_option maxRecDepth 100000 in
theorem mv_X11_undo : MV yX11_undo cX11_undo 1 (some .boolean) 0 := ⟨uu (i := 1295) (by decide +kernel) rfl, uu (i := 1296) (by decide +kernel) rfl, uu (i := 111) (by decide +kernel) rfl, uu (i := 1297) rfl rfl, ⟨by decide +kernel, by decide +kernel, by decide +kernel⟩, by decide⟩
abbrev mX11_untrue : MethodName × ByteArray × Nat × Option FieldType := (yX11_untrue, cX11_untrue, 2, (some .int))
set_option maxRecDepth 100000 in
theorem mv_X11_untrue : MV yX11_untrue cX11_untrue 2 (some .int) 1 := ⟨uu (i := 1214) (by decide +kernel) rfl, uu (i := 1215) (by decide +kernel) rfl, uu (i := 111) (by decide +kernel) rfl, uu (i := 1216) rfl rfl, ⟨by decide +kernel, by decide +kernel, by decide +kernel⟩, by decide⟩
abbrev mX11_value : MethodName × ByteArray × Nat × Option FieldType := (yX11_value, cX11_value, 2, (some .int))
set_option maxRecDepth 100000 in
theorem mv_X11_value : MV yX11_value cX11_value 2 (some .int) 1 := ⟨uu (i := 1039) (by decide +kernel) rfl, uu (i := 1040) (by decide +kernel) rfl, uu (i := 111) (by decide +kernel) rfl, uu (i := 1041) rfl rfl, ⟨by decide +kernel, by decide +kernel, by decide +kernel⟩, by decide⟩
abbrev mX11_wearer : MethodName × ByteArray × Nat × Option FieldType := (yX11_wearer, cX11_wearer, 3, (some .int))
set_option maxRecDepth 100000 in
theorem mv_X11_wearer : MV yX11_wearer cX11_wearer 3 (some .int) 2 := ⟨uu (i := 920) (by decide +kernel) rfl, uu (i := 921) (by decide +kernel) rfl, uu (i := 111) (by decide +kernel) rfl, uu (i := 922) rfl rfl, ⟨by decide +kernel, by decide +kernel, by decide +kernel⟩, by decide⟩
abbrev mX11_wearers : MethodName × ByteArray × Nat × Option FieldType := (yX11_wearers, cX11_wearers, 2, (some .int))
set_option maxRecDepth 100000 in
theorem mv_X11_wearers : MV yX11_wearers cX11_wearers 2 (some .int) 1 := ⟨uu (i := 1136) (by decide +kernel) rfl, uu (i := 1137) (by decide +kernel) rfl, uu (i := 111) (by decide +kernel) rfl, uu (i := 1138) rfl rfl, ⟨by decide +kernel, by decide +kernel, by decide +kernel⟩, by decide⟩
abbrev mX11_where : MethodName × ByteArray × Nat × Option FieldType := (yX11_where, cX11_where, 1, (some .int))
set_option maxRecDepth 100000 in
theorem mv_X11_where : MV yX11_where cX11_where 1 (some .int) 0 := ⟨uu (i := 900) (by decide +kernel) rfl, uu (i := 901) (by decide +kernel) rfl, uu (i := 111) (by decide +kernel) rfl, uu (i := 902) rfl rfl, ⟨by decide +kernel, by decide +kernel, by decide +kernel⟩, by decide⟩
abbrev mX11_worn : MethodName × ByteArray × Nat × Option FieldType := (yX11_worn, cX11_worn, 3, (some .int))
set_option maxRecDepth 100000 in
theorem mv_X11_worn : MV yX11_worn cX11_worn 3 (some .int) 2 := ⟨uu (i := 940) (by decide +kernel) rfl, uu (i := 941) (by decide +kernel) rfl, uu (i := 111) (by decide +kernel) rfl, uu (i := 942) rfl rfl, ⟨by decide +kernel, by decide +kernel, by decide +kernel⟩, by decide⟩
abbrev mX11_worth : MethodName × ByteArray × Nat × Option FieldType := (yX11_worth, cX11_worth, 3, (some .int))
set_option maxRecDepth 100000 in
theorem mv_X11_worth : MV yX11_worth cX11_worth 3 (some .int) 0 := ⟨uu (i := 1095) (by decide +kernel) rfl, uu (i := 1096) (by decide +kernel) rfl, uu (i := 111) (by decide +kernel) rfl, uu (i := 1097) rfl rfl, ⟨by decide +kernel, by decide +kernel, by decide +kernel⟩, by decide⟩
abbrev mX12_agrees : MethodName × ByteArray × Nat × Option FieldType := (yX12_agrees, cX12_agrees, 3, (some .int))
set_option maxRecDepth 100000 in
theorem mv_X12_agrees : MV yX12_agrees cX12_agrees 3 (some .int) 2 := ⟨uu (i := 1922) (by decide +kernel) rfl, uu (i := 1923) (by decide +kernel) rfl, uu (i := 127) (by decide +kernel) rfl, uu (i := 1924) rfl rfl, ⟨by decide +kernel, by decide +kernel, by decide +kernel⟩, by decide⟩
abbrev mX12_areApart : MethodName × ByteArray × Nat × Option FieldType := (yX12_areApart, cX12_areApart, 6, (some .boolean))
set_option maxRecDepth 100000 in
theorem mv_X12_areApart : MV yX12_areApart cX12_areApart 6 (some .boolean) 1 := ⟨uu (i := 1888) (by decide +kernel) rfl, uu (i := 100) (by decide +kernel) rfl, uu (i := 127) (by decide +kernel) rfl, uu (i := 1889) rfl rfl, ⟨by decide +kernel, by decide +kernel, by decide +kernel⟩, by decide⟩
abbrev mX12_areDays : MethodName × ByteArray × Nat × Option FieldType := (yX12_areDays, cX12_areDays, 3, (some .boolean))
set_option maxRecDepth 100000 in
theorem mv_X12_areDays : MV yX12_areDays cX12_areDays 3 (some .boolean) 2 := ⟨uu (i := 1857) (by decide +kernel) rfl, uu (i := 94) (by decide +kernel) rfl, uu (i := 127) (by decide +kernel) rfl, uu (i := 1858) rfl rfl, ⟨by decide +kernel, by decide +kernel, by decide +kernel⟩, by decide⟩
abbrev mX12_areLovers : MethodName × ByteArray × Nat × Option FieldType := (yX12_areLovers, cX12_areLovers, 12, (some .boolean))
set_option maxRecDepth 100000 in
theorem mv_X12_areLovers : MV yX12_areLovers cX12_areLovers 12 (some .boolean) 4 := ⟨uu (i := 1939) (by decide +kernel) rfl, uu (i := 107) (by decide +kernel) rfl, uu (i := 127) (by decide +kernel) rfl, uu (i := 1940) rfl rfl, ⟨by decide +kernel, by decide +kernel, by decide +kernel⟩, by decide⟩
abbrev mX12_areMasks : MethodName × ByteArray × Nat × Option FieldType := (yX12_areMasks, cX12_areMasks, 3, (some .boolean))
set_option maxRecDepth 100000 in
theorem mv_X12_areMasks : MV yX12_areMasks cX12_areMasks 3 (some .boolean) 2 := ⟨uu (i := 1931) (by decide +kernel) rfl, uu (i := 105) (by decide +kernel) rfl, uu (i := 127) (by decide +kernel) rfl, uu (i := 1932) rfl rfl, ⟨by decide +kernel, by decide +kernel, by decide +kernel⟩, by decide⟩
abbrev mX12_ask : MethodName × ByteArray × Nat × Option FieldType := (yX12_ask, cX12_ask, 7, (some .int))
set_option maxRecDepth 100000 in
theorem mv_X12_ask : MV yX12_ask cX12_ask 7 (some .int) 4 := ⟨uu (i := 1852) (by decide +kernel) rfl, uu (i := 1853) (by decide +kernel) rfl, uu (i := 127) (by decide +kernel) rfl, uu (i := 1854) rfl rfl, ⟨by decide +kernel, by decide +kernel, by decide +kernel⟩, by decide⟩
abbrev mX12_back : MethodName × ByteArray × Nat × Option FieldType := (yX12_back, cX12_back, 2, (some .boolean))
set_option maxRecDepth 100000 in
theorem mv_X12_back : MV yX12_back cX12_back 2 (some .boolean) 1 := ⟨uu (i := 1988) (by decide +kernel) rfl, uu (i := 1989) (by decide +kernel) rfl, uu (i := 127) (by decide +kernel) rfl, uu (i := 1990) rfl rfl, ⟨by decide +kernel, by decide +kernel, by decide +kernel⟩, by decide⟩
abbrev mX12_begins : MethodName × ByteArray × Nat × Option FieldType := (yX12_begins, cX12_begins, 4, (some .boolean))
set_option maxRecDepth 100000 in
theorem mv_X12_begins : MV yX12_begins cX12_begins 4 (some .boolean) 3 := ⟨uu (i := 1563) (by decide +kernel) rfl, uu (i := 53) (by decide +kernel) rfl, uu (i := 127) (by decide +kernel) rfl, uu (i := 1564) rfl rfl, ⟨by decide +kernel, by decide +kernel, by decide +kernel⟩, by decide⟩
abbrev mX12_beginsDay : MethodName × ByteArray × Nat × Option FieldType := (yX12_beginsDay, cX12_beginsDay, 3, (some .boolean))
set_option maxRecDepth 100000 in
theorem mv_X12_beginsDay : MV yX12_beginsDay cX12_beginsDay 3 (some .boolean) 2 := ⟨uu (i := 1659) (by decide +kernel) rfl, uu (i := 71) (by decide +kernel) rfl, uu (i := 127) (by decide +kernel) rfl, uu (i := 1660) rfl rfl, ⟨by decide +kernel, by decide +kernel, by decide +kernel⟩, by decide⟩
abbrev mX12_bits : MethodName × ByteArray × Nat × Option FieldType := (yX12_bits, cX12_bits, 3, (some .int))
set_option maxRecDepth 100000 in
theorem ms_X12_bits : MS yX12_bits cX12_bits 3 (some .int) 1 := ⟨uu (i := 1884) (by decide +kernel) rfl, uu (i := 127) (by decide +kernel) rfl, uu (i := 1885) rfl rfl, ⟨by decide +kernel, by decide +kernel, by decide +kernel⟩, by decide⟩
abbrev mX12_book : MethodName × ByteArray × Nat × Option FieldType := (yX12_book, cX12_book, 3, (some .int))
set_option maxRecDepth 100000 in
theorem mv_X12_book : MV yX12_book cX12_book 3 (some .int) 1 := ⟨uu (i := 1528) (by decide +kernel) rfl, uu (i := 1529) (by decide +kernel) rfl, uu (i := 127) (by decide +kernel) rfl, uu (i := 1530) rfl rfl, ⟨by decide +kernel, by decide +kernel, by decide +kernel⟩, by decide⟩
abbrev mX12_breakLine : MethodName × ByteArray × Nat × Option FieldType := (yX12_breakLine, cX12_breakLine, 4, none)
set_option maxRecDepth 100000 in
theorem mv_X12_breakLine : MV yX12_breakLine cX12_breakLine 4 none 0 := ⟨uu (i := 1709) (by decide +kernel) rfl, uu (i := 77) (by decide +kernel) rfl, uu (i := 127) (by decide +kernel) rfl, uu (i := 1710) rfl rfl, ⟨by decide +kernel, by decide +kernel, by decide +kernel⟩, by decide⟩
abbrev mX12_breaking : MethodName × ByteArray × Nat × Option FieldType := (yX12_breaking, cX12_breaking, 4, (some .boolean))
set_option maxRecDepth 100000 in
theorem mv_X12_breaking : MV yX12_breaking cX12_breaking 4 (some .boolean) 3 := ⟨uu (i := 1972) (by decide +kernel) rfl, uu (i := 1973) (by decide +kernel) rfl, uu (i := 127) (by decide +kernel) rfl, uu (i := 1974) rfl rfl, ⟨by decide +kernel, by decide +kernel, by decide +kernel⟩, by decide⟩
abbrev mX12_breaks : MethodName × ByteArray × Nat × Option FieldType := (yX12_breaks, cX12_breaks, 3, (some .int))
set_option maxRecDepth 100000 in
theorem mv_X12_breaks : MV yX12_breaks cX12_breaks 3 (some .int) 2 := ⟨uu (i := 1811) (by decide +kernel) rfl, uu (i := 1812) (by decide +kernel) rfl, uu (i := 127) (by decide +kernel) rfl, uu (i := 1813) rfl rfl, ⟨by decide +kernel, by decide +kernel, by decide +kernel⟩, by decide⟩
abbrev mX12_canLend : MethodName × ByteArray × Nat × Option FieldType := (yX12_canLend, cX12_canLend, 10, (some .boolean))
set_option maxRecDepth 100000 in
theorem ms_X12_canLend : MS yX12_canLend cX12_canLend 10 (some .boolean) 7 := ⟨uu (i := 1681) (by decide +kernel) rfl, uu (i := 127) (by decide +kernel) rfl, uu (i := 1682) rfl rfl, ⟨by decide +kernel, by decide +kernel, by decide +kernel⟩, by decide⟩
abbrev mX12_comma : MethodName × ByteArray × Nat × Option FieldType := (yX12_comma, cX12_comma, 1, (some .boolean))
set_option maxRecDepth 100000 in
theorem mv_X12_comma : MV yX12_comma cX12_comma 1 (some .boolean) 0 := ⟨uu (i := 1630) (by decide +kernel) rfl, uu (i := 66) (by decide +kernel) rfl, uu (i := 127) (by decide +kernel) rfl, uu (i := 1631) rfl rfl, ⟨by decide +kernel, by decide +kernel, by decide +kernel⟩, by decide⟩
abbrev mX12_common : MethodName × ByteArray × Nat × Option FieldType := (yX12_common, cX12_common, 10, (some .long))
set_option maxRecDepth 100000 in
theorem ms_X12_common : MS yX12_common cX12_common 10 (some .long) 2 := ⟨uu (i := 1911) (by decide +kernel) rfl, uu (i := 127) (by decide +kernel) rfl, uu (i := 1912) rfl rfl, ⟨by decide +kernel, by decide +kernel, by decide +kernel⟩, by decide⟩
abbrev mX12_copy : MethodName × ByteArray × Nat × Option FieldType := (yX12_copy, cX12_copy, 6, none)
set_option maxRecDepth 100000 in
theorem ms_X12_copy : MS yX12_copy cX12_copy 6 none 5 := ⟨uu (i := 1712) (by decide +kernel) rfl, uu (i := 127) (by decide +kernel) rfl, uu (i := 1713) rfl rfl, ⟨by decide +kernel, by decide +kernel, by decide +kernel⟩, by decide⟩
abbrev mX12_countWearers : MethodName × ByteArray × Nat × Option FieldType := (yX12_countWearers, cX12_countWearers, 11, (some .long))
set_option maxRecDepth 100000 in
theorem mv_X12_countWearers : MV yX12_countWearers cX12_countWearers 11 (some .long) 2 := ⟨uu (i := 1892) (by decide +kernel) rfl, uu (i := 101) (by decide +kernel) rfl, uu (i := 127) (by decide +kernel) rfl, uu (i := 1893) rfl rfl, ⟨by decide +kernel, by decide +kernel, by decide +kernel⟩, by decide⟩
abbrev mX12_credit : MethodName × ByteArray × Nat × Option FieldType := (yX12_credit, cX12_credit, 6, (some .int))
set_option maxRecDepth 100000 in
theorem mv_X12_credit : MV yX12_credit cX12_credit 6 (some .int) 2 := ⟨uu (i := 1783) (by decide +kernel) rfl, uu (i := 1784) (by decide +kernel) rfl, uu (i := 127) (by decide +kernel) rfl, uu (i := 1785) rfl rfl, ⟨by decide +kernel, by decide +kernel, by decide +kernel⟩, by decide⟩
abbrev mX12_day : MethodName × ByteArray × Nat × Option FieldType := (yX12_day, cX12_day, 2, (some .int))
set_option maxRecDepth 100000 in
theorem mv_X12_day : MV yX12_day cX12_day 2 (some .int) 1 := ⟨uu (i := 1668) (by decide +kernel) rfl, uu (i := 73) (by decide +kernel) rfl, uu (i := 127) (by decide +kernel) rfl, uu (i := 1669) rfl rfl, ⟨by decide +kernel, by decide +kernel, by decide +kernel⟩, by decide⟩
abbrev mX12_debt : MethodName × ByteArray × Nat × Option FieldType := (yX12_debt, cX12_debt, 3, (some .int))
set_option maxRecDepth 100000 in
theorem mv_X12_debt : MV yX12_debt cX12_debt 3 (some .int) 2 := ⟨uu (i := 1791) (by decide +kernel) rfl, uu (i := 1792) (by decide +kernel) rfl, uu (i := 127) (by decide +kernel) rfl, uu (i := 1793) rfl rfl, ⟨by decide +kernel, by decide +kernel, by decide +kernel⟩, by decide⟩
abbrev mX12_debtOf : MethodName × ByteArray × Nat × Option FieldType := (yX12_debtOf, cX12_debtOf, 5, (some .int))
set_option maxRecDepth 100000 in
theorem mv_X12_debtOf : MV yX12_debtOf cX12_debtOf 5 (some .int) 2 := ⟨uu (i := 1796) (by decide +kernel) rfl, uu (i := 89) (by decide +kernel) rfl, uu (i := 127) (by decide +kernel) rfl, uu (i := 1797) rfl rfl, ⟨by decide +kernel, by decide +kernel, by decide +kernel⟩, by decide⟩
abbrev mX12_did : MethodName × ByteArray × Nat × Option FieldType := (yX12_did, cX12_did, 1, (some .boolean))
set_option maxRecDepth 100000 in
theorem mv_X12_did : MV yX12_did cX12_did 1 (some .boolean) 0 := ⟨uu (i := 1955) (by decide +kernel) rfl, uu (i := 109) (by decide +kernel) rfl, uu (i := 127) (by decide +kernel) rfl, uu (i := 1956) rfl rfl, ⟨by decide +kernel, by decide +kernel, by decide +kernel⟩, by decide⟩
abbrev mX12_doesAgree : MethodName × ByteArray × Nat × Option FieldType := (yX12_doesAgree, cX12_doesAgree, 3, (some .boolean))
set_option maxRecDepth 100000 in
theorem mv_X12_doesAgree : MV yX12_doesAgree cX12_doesAgree 3 (some .boolean) 2 := ⟨uu (i := 1900) (by decide +kernel) rfl, uu (i := 103) (by decide +kernel) rfl, uu (i := 127) (by decide +kernel) rfl, uu (i := 1901) rfl rfl, ⟨by decide +kernel, by decide +kernel, by decide +kernel⟩, by decide⟩
abbrev mX12_doesFit : MethodName × ByteArray × Nat × Option FieldType := (yX12_doesFit, cX12_doesFit, 5, (some .boolean))
set_option maxRecDepth 100000 in
theorem ms_X12_doesFit : MS yX12_doesFit cX12_doesFit 5 (some .boolean) 3 := ⟨uu (i := 1684) (by decide +kernel) rfl, uu (i := 127) (by decide +kernel) rfl, uu (i := 1685) rfl rfl, ⟨by decide +kernel, by decide +kernel, by decide +kernel⟩, by decide⟩
abbrev mX12_done : MethodName × ByteArray × Nat × Option FieldType := (yX12_done, cX12_done, 2, (some .int))
set_option maxRecDepth 100000 in
theorem mv_X12_done : MV yX12_done cX12_done 2 (some .int) 1 := ⟨uu (i := 1767) (by decide +kernel) rfl, uu (i := 1768) (by decide +kernel) rfl, uu (i := 127) (by decide +kernel) rfl, uu (i := 1769) rfl rfl, ⟨by decide +kernel, by decide +kernel, by decide +kernel⟩, by decide⟩
abbrev mX12_dropLending : MethodName × ByteArray × Nat × Option FieldType := (yX12_dropLending, cX12_dropLending, 3, none)
set_option maxRecDepth 100000 in
theorem ms_X12_dropLending : MS yX12_dropLending cX12_dropLending 3 none 2 := ⟨uu (i := 1965) (by decide +kernel) rfl, uu (i := 127) (by decide +kernel) rfl, uu (i := 1966) rfl rfl, ⟨by decide +kernel, by decide +kernel, by decide +kernel⟩, by decide⟩
abbrev mX12_fault : MethodName × ByteArray × Nat × Option FieldType := (yX12_fault, cX12_fault, 1, (some .int))
set_option maxRecDepth 100000 in
theorem mv_X12_fault : MV yX12_fault cX12_fault 1 (some .int) 0 := ⟨uu (i := 1715) (by decide +kernel) rfl, uu (i := 1716) (by decide +kernel) rfl, uu (i := 127) (by decide +kernel) rfl, uu (i := 1717) rfl rfl, ⟨by decide +kernel, by decide +kernel, by decide +kernel⟩, by decide⟩
abbrev mX12_feed : MethodName × ByteArray × Nat × Option FieldType := (yX12_feed, cX12_feed, 8, (some .int))
set_option maxRecDepth 100000 in
theorem mv_X12_feed : MV yX12_feed cX12_feed 8 (some .int) 5 := ⟨uu (i := 1524) (by decide +kernel) rfl, uu (i := 1525) (by decide +kernel) rfl, uu (i := 127) (by decide +kernel) rfl, uu (i := 1526) rfl rfl, ⟨by decide +kernel, by decide +kernel, by decide +kernel⟩, by decide⟩
abbrev mX12_find : MethodName × ByteArray × Nat × Option FieldType := (yX12_find, cX12_find, 4, (some .int))
set_option maxRecDepth 100000 in
theorem mv_X12_find : MV yX12_find cX12_find 4 (some .int) 0 := ⟨uu (i := 1622) (by decide +kernel) rfl, uu (i := 64) (by decide +kernel) rfl, uu (i := 127) (by decide +kernel) rfl, uu (i := 1623) rfl rfl, ⟨by decide +kernel, by decide +kernel, by decide +kernel⟩, by decide⟩
abbrev mX12_findFalse : MethodName × ByteArray × Nat × Option FieldType := (yX12_findFalse, cX12_findFalse, 5, (some .int))
set_option maxRecDepth 100000 in
theorem mv_X12_findFalse : MV yX12_findFalse cX12_findFalse 5 (some .int) 1 := ⟨uu (i := 1869) (by decide +kernel) rfl, uu (i := 96) (by decide +kernel) rfl, uu (i := 127) (by decide +kernel) rfl, uu (i := 1870) rfl rfl, ⟨by decide +kernel, by decide +kernel, by decide +kernel⟩, by decide⟩
abbrev mX12_fits : MethodName × ByteArray × Nat × Option FieldType := (yX12_fits, cX12_fits, 3, (some .int))
set_option maxRecDepth 100000 in
theorem mv_X12_fits : MV yX12_fits cX12_fits 3 (some .int) 2 := ⟨uu (i := 1723) (by decide +kernel) rfl, uu (i := 1724) (by decide +kernel) rfl, uu (i := 127) (by decide +kernel) rfl, uu (i := 1725) rfl rfl, ⟨by decide +kernel, by decide +kernel, by decide +kernel⟩, by decide⟩
abbrev mX12_gain : MethodName × ByteArray × Nat × Option FieldType := (yX12_gain, cX12_gain, 5, (some .int))
set_option maxRecDepth 100000 in
theorem mv_X12_gain : MV yX12_gain cX12_gain 5 (some .int) 2 := ⟨uu (i := 1799) (by decide +kernel) rfl, uu (i := 1800) (by decide +kernel) rfl, uu (i := 127) (by decide +kernel) rfl, uu (i := 1801) rfl rfl, ⟨by decide +kernel, by decide +kernel, by decide +kernel⟩, by decide⟩
abbrev mX12_give : MethodName × ByteArray × Nat × Option FieldType := (yX12_give, cX12_give, 4, (some .boolean))
set_option maxRecDepth 100000 in
theorem mv_X12_give : MV yX12_give cX12_give 4 (some .boolean) 2 := ⟨uu (i := 1961) (by decide +kernel) rfl, uu (i := 1962) (by decide +kernel) rfl, uu (i := 127) (by decide +kernel) rfl, uu (i := 1963) rfl rfl, ⟨by decide +kernel, by decide +kernel, by decide +kernel⟩, by decide⟩
abbrev mX12_good : MethodName × ByteArray × Nat × Option FieldType := (yX12_good, cX12_good, 1, none)
set_option maxRecDepth 100000 in
theorem mv_X12_good : MV yX12_good cX12_good 1 none 0 := ⟨uu (i := 1533) (by decide +kernel) rfl, uu (i := 48) (by decide +kernel) rfl, uu (i := 127) (by decide +kernel) rfl, uu (i := 1534) rfl rfl, ⟨by decide +kernel, by decide +kernel, by decide +kernel⟩, by decide⟩
abbrev mX12_guild : MethodName × ByteArray × Nat × Option FieldType := (yX12_guild, cX12_guild, 1, (some .int))
set_option maxRecDepth 100000 in
theorem mv_X12_guild : MV yX12_guild cX12_guild 1 (some .int) 0 := ⟨uu (i := 1807) (by decide +kernel) rfl, uu (i := 1808) (by decide +kernel) rfl, uu (i := 127) (by decide +kernel) rfl, uu (i := 1809) rfl rfl, ⟨by decide +kernel, by decide +kernel, by decide +kernel⟩, by decide⟩
abbrev mX12_has : MethodName × ByteArray × Nat × Option FieldType := (yX12_has, cX12_has, 2, (some .boolean))
set_option maxRecDepth 100000 in
theorem ms_X12_has : MS yX12_has cX12_has 2 (some .boolean) 2 := ⟨uu (i := 1655) (by decide +kernel) rfl, uu (i := 127) (by decide +kernel) rfl, uu (i := 1656) rfl rfl, ⟨by decide +kernel, by decide +kernel, by decide +kernel⟩, by decide⟩
abbrev mX12_image : MethodName × ByteArray × Nat × Option FieldType := (yX12_image, cX12_image, 1, (some .int))
set_option maxRecDepth 100000 in
theorem mv_X12_image : MV yX12_image cX12_image 1 (some .int) 0 := ⟨uu (i := 1984) (by decide +kernel) rfl, uu (i := 1985) (by decide +kernel) rfl, uu (i := 127) (by decide +kernel) rfl, uu (i := 1986) rfl rfl, ⟨by decide +kernel, by decide +kernel, by decide +kernel⟩, by decide⟩
abbrev mX12_init : MethodName × ByteArray × Nat × Option FieldType := (yX12_init, cX12_init, 1, none)
set_option maxRecDepth 100000 in
theorem mi_X12_init : MI yX12_init cX12_init 1 0 := ⟨uu (i := 1416) (by decide +kernel) rfl, uu (i := 127) (by decide +kernel) rfl, uu (i := 1417) rfl rfl, ⟨by decide +kernel, by decide +kernel, by decide +kernel⟩, by decide, rfl⟩
abbrev mX12_isBroken : MethodName × ByteArray × Nat × Option FieldType := (yX12_isBroken, cX12_isBroken, 3, (some .boolean))
set_option maxRecDepth 100000 in
theorem mv_X12_isBroken : MV yX12_isBroken cX12_isBroken 3 (some .boolean) 2 := ⟨uu (i := 1776) (by decide +kernel) rfl, uu (i := 86) (by decide +kernel) rfl, uu (i := 127) (by decide +kernel) rfl, uu (i := 1777) rfl rfl, ⟨by decide +kernel, by decide +kernel, by decide +kernel⟩, by decide⟩
abbrev mX12_isDay : MethodName × ByteArray × Nat × Option FieldType := (yX12_isDay, cX12_isDay, 2, (some .boolean))
set_option maxRecDepth 100000 in
theorem mv_X12_isDay : MV yX12_isDay cX12_isDay 2 (some .boolean) 1 := ⟨uu (i := 1740) (by decide +kernel) rfl, uu (i := 80) (by decide +kernel) rfl, uu (i := 127) (by decide +kernel) rfl, uu (i := 1741) rfl rfl, ⟨by decide +kernel, by decide +kernel, by decide +kernel⟩, by decide⟩
abbrev mX12_isDayOrNone : MethodName × ByteArray × Nat × Option FieldType := (yX12_isDayOrNone, cX12_isDayOrNone, 2, (some .boolean))
set_option maxRecDepth 100000 in
theorem mv_X12_isDayOrNone : MV yX12_isDayOrNone cX12_isDayOrNone 2 (some .boolean) 1 := ⟨uu (i := 1788) (by decide +kernel) rfl, uu (i := 88) (by decide +kernel) rfl, uu (i := 127) (by decide +kernel) rfl, uu (i := 1789) rfl rfl, ⟨by decide +kernel, by decide +kernel, by decide +kernel⟩, by decide⟩
abbrev mX12_isDigit : MethodName × ByteArray × Nat × Option FieldType := (yX12_isDigit, cX12_isDigit, 1, (some .boolean))
set_option maxRecDepth 100000 in
theorem ms_X12_isDigit : MS yX12_isDigit cX12_isDigit 1 (some .boolean) 1 := ⟨uu (i := 1554) (by decide +kernel) rfl, uu (i := 127) (by decide +kernel) rfl, uu (i := 1555) rfl rfl, ⟨by decide +kernel, by decide +kernel, by decide +kernel⟩, by decide⟩
abbrev mX12_isDone : MethodName × ByteArray × Nat × Option FieldType := (yX12_isDone, cX12_isDone, 3, (some .boolean))
set_option maxRecDepth 100000 in
theorem mv_X12_isDone : MV yX12_isDone cX12_isDone 3 (some .boolean) 1 := ⟨uu (i := 1772) (by decide +kernel) rfl, uu (i := 85) (by decide +kernel) rfl, uu (i := 127) (by decide +kernel) rfl, uu (i := 1773) rfl rfl, ⟨by decide +kernel, by decide +kernel, by decide +kernel⟩, by decide⟩
abbrev mX12_isMask : MethodName × ByteArray × Nat × Option FieldType := (yX12_isMask, cX12_isMask, 2, (some .boolean))
set_option maxRecDepth 100000 in
theorem mv_X12_isMask : MV yX12_isMask cX12_isMask 2 (some .boolean) 1 := ⟨uu (i := 1728) (by decide +kernel) rfl, uu (i := 78) (by decide +kernel) rfl, uu (i := 127) (by decide +kernel) rfl, uu (i := 1729) rfl rfl, ⟨by decide +kernel, by decide +kernel, by decide +kernel⟩, by decide⟩
abbrev mX12_isNot : MethodName × ByteArray × Nat × Option FieldType := (yX12_isNot, cX12_isNot, 2, (some .boolean))
set_option maxRecDepth 100000 in
theorem mv_X12_isNot : MV yX12_isNot cX12_isNot 2 (some .boolean) 1 := ⟨uu (i := 1951) (by decide +kernel) rfl, uu (i := 108) (by decide +kernel) rfl, uu (i := 127) (by decide +kernel) rfl, uu (i := 1952) rfl rfl, ⟨by decide +kernel, by decide +kernel, by decide +kernel⟩, by decide⟩
abbrev mX12_isPerson : MethodName × ByteArray × Nat × Option FieldType := (yX12_isPerson, cX12_isPerson, 2, (some .boolean))
set_option maxRecDepth 100000 in
theorem mv_X12_isPerson : MV yX12_isPerson cX12_isPerson 2 (some .boolean) 1 := ⟨uu (i := 1732) (by decide +kernel) rfl, uu (i := 79) (by decide +kernel) rfl, uu (i := 127) (by decide +kernel) rfl, uu (i := 1733) rfl rfl, ⟨by decide +kernel, by decide +kernel, by decide +kernel⟩, by decide⟩
abbrev mX12_isPromise : MethodName × ByteArray × Nat × Option FieldType := (yX12_isPromise, cX12_isPromise, 2, (some .boolean))
set_option maxRecDepth 100000 in
theorem mv_X12_isPromise : MV yX12_isPromise cX12_isPromise 2 (some .boolean) 1 := ⟨uu (i := 1756) (by decide +kernel) rfl, uu (i := 82) (by decide +kernel) rfl, uu (i := 127) (by decide +kernel) rfl, uu (i := 1757) rfl rfl, ⟨by decide +kernel, by decide +kernel, by decide +kernel⟩, by decide⟩
abbrev mX12_isSmall : MethodName × ByteArray × Nat × Option FieldType := (yX12_isSmall, cX12_isSmall, 1, (some .boolean))
set_option maxRecDepth 100000 in
theorem ms_X12_isSmall : MS yX12_isSmall cX12_isSmall 1 (some .boolean) 1 := ⟨uu (i := 1551) (by decide +kernel) rfl, uu (i := 127) (by decide +kernel) rfl, uu (i := 1552) rfl rfl, ⟨by decide +kernel, by decide +kernel, by decide +kernel⟩, by decide⟩
abbrev mX12_isTold : MethodName × ByteArray × Nat × Option FieldType := (yX12_isTold, cX12_isTold, 3, (some .boolean))
set_option maxRecDepth 100000 in
theorem mv_X12_isTold : MV yX12_isTold cX12_isTold 3 (some .boolean) 2 := ⟨uu (i := 1904) (by decide +kernel) rfl, uu (i := 104) (by decide +kernel) rfl, uu (i := 127) (by decide +kernel) rfl, uu (i := 1905) rfl rfl, ⟨by decide +kernel, by decide +kernel, by decide +kernel⟩, by decide⟩
abbrev mX12_isWord : MethodName × ByteArray × Nat × Option FieldType := (yX12_isWord, cX12_isWord, 4, (some .boolean))
set_option maxRecDepth 100000 in
theorem mv_X12_isWord : MV yX12_isWord cX12_isWord 4 (some .boolean) 1 := ⟨uu (i := 1567) (by decide +kernel) rfl, uu (i := 54) (by decide +kernel) rfl, uu (i := 127) (by decide +kernel) rfl, uu (i := 1568) rfl rfl, ⟨by decide +kernel, by decide +kernel, by decide +kernel⟩, by decide⟩
abbrev mX12_keep : MethodName × ByteArray × Nat × Option FieldType := (yX12_keep, cX12_keep, 5, (some .int))
set_option maxRecDepth 100000 in
theorem ms_X12_keep : MS yX12_keep cX12_keep 5 (some .int) 3 := ⟨uu (i := 1958) (by decide +kernel) rfl, uu (i := 127) (by decide +kernel) rfl, uu (i := 1959) rfl rfl, ⟨by decide +kernel, by decide +kernel, by decide +kernel⟩, by decide⟩
abbrev mX12_keepName : MethodName × ByteArray × Nat × Option FieldType := (yX12_keepName, cX12_keepName, 3, none)
set_option maxRecDepth 100000 in
theorem mv_X12_keepName : MV yX12_keepName cX12_keepName 3 none 1 := ⟨uu (i := 1626) (by decide +kernel) rfl, uu (i := 65) (by decide +kernel) rfl, uu (i := 127) (by decide +kernel) rfl, uu (i := 1627) rfl rfl, ⟨by decide +kernel, by decide +kernel, by decide +kernel⟩, by decide⟩
abbrev mX12_layPlan : MethodName × ByteArray × Nat × Option FieldType := (yX12_layPlan, cX12_layPlan, 9, (some .int))
set_option maxRecDepth 100000 in
theorem mv_X12_layPlan : MV yX12_layPlan cX12_layPlan 9 (some .int) 2 := ⟨uu (i := 1824) (by decide +kernel) rfl, uu (i := 92) (by decide +kernel) rfl, uu (i := 127) (by decide +kernel) rfl, uu (i := 1825) rfl rfl, ⟨by decide +kernel, by decide +kernel, by decide +kernel⟩, by decide⟩
abbrev mX12_led : MethodName × ByteArray × Nat × Option FieldType := (yX12_led, cX12_led, 5, (some .int))
set_option maxRecDepth 100000 in
theorem mv_X12_led : MV yX12_led cX12_led 5 (some .int) 2 := ⟨uu (i := 2004) (by decide +kernel) rfl, uu (i := 2005) (by decide +kernel) rfl, uu (i := 127) (by decide +kernel) rfl, uu (i := 2006) rfl rfl, ⟨by decide +kernel, by decide +kernel, by decide +kernel⟩, by decide⟩
abbrev mX12_lend : MethodName × ByteArray × Nat × Option FieldType := (yX12_lend, cX12_lend, 5, (some .boolean))
set_option maxRecDepth 100000 in
theorem mv_X12_lend : MV yX12_lend cX12_lend 5 (some .boolean) 4 := ⟨uu (i := 1946) (by decide +kernel) rfl, uu (i := 1947) (by decide +kernel) rfl, uu (i := 127) (by decide +kernel) rfl, uu (i := 1948) rfl rfl, ⟨by decide +kernel, by decide +kernel, by decide +kernel⟩, by decide⟩
abbrev mX12_lending : MethodName × ByteArray × Nat × Option FieldType := (yX12_lending, cX12_lending, 3, (some .int))
set_option maxRecDepth 100000 in
theorem mv_X12_lending : MV yX12_lending cX12_lending 3 (some .int) 2 := ⟨uu (i := 1992) (by decide +kernel) rfl, uu (i := 1993) (by decide +kernel) rfl, uu (i := 127) (by decide +kernel) rfl, uu (i := 1994) rfl rfl, ⟨by decide +kernel, by decide +kernel, by decide +kernel⟩, by decide⟩
abbrev mX12_lendingOf : MethodName × ByteArray × Nat × Option FieldType := (yX12_lendingOf, cX12_lendingOf, 4, (some .int))
set_option maxRecDepth 100000 in
theorem ms_X12_lendingOf : MS yX12_lendingOf cX12_lendingOf 4 (some .int) 3 := ⟨uu (i := 1693) (by decide +kernel) rfl, uu (i := 127) (by decide +kernel) rfl, uu (i := 1694) rfl rfl, ⟨by decide +kernel, by decide +kernel, by decide +kernel⟩, by decide⟩
abbrev mX12_lentLine : MethodName × ByteArray × Nat × Option FieldType := (yX12_lentLine, cX12_lentLine, 6, none)
set_option maxRecDepth 100000 in
theorem mv_X12_lentLine : MV yX12_lentLine cX12_lentLine 6 none 0 := ⟨uu (i := 1675) (by decide +kernel) rfl, uu (i := 74) (by decide +kernel) rfl, uu (i := 127) (by decide +kernel) rfl, uu (i := 1676) rfl rfl, ⟨by decide +kernel, by decide +kernel, by decide +kernel⟩, by decide⟩
abbrev mX12_less : MethodName × ByteArray × Nat × Option FieldType := (yX12_less, cX12_less, 3, (some .int))
set_option maxRecDepth 100000 in
theorem mv_X12_less : MV yX12_less cX12_less 3 (some .int) 2 := ⟨uu (i := 1804) (by decide +kernel) rfl, uu (i := 90) (by decide +kernel) rfl, uu (i := 127) (by decide +kernel) rfl, uu (i := 1805) rfl rfl, ⟨by decide +kernel, by decide +kernel, by decide +kernel⟩, by decide⟩
abbrev mX12_letterLine : MethodName × ByteArray × Nat × Option FieldType := (yX12_letterLine, cX12_letterLine, 3, none)
set_option maxRecDepth 100000 in
theorem mv_X12_letterLine : MV yX12_letterLine cX12_letterLine 3 none 0 := ⟨uu (i := 1705) (by decide +kernel) rfl, uu (i := 76) (by decide +kernel) rfl, uu (i := 127) (by decide +kernel) rfl, uu (i := 1706) rfl rfl, ⟨by decide +kernel, by decide +kernel, by decide +kernel⟩, by decide⟩
abbrev mX12_look : MethodName × ByteArray × Nat × Option FieldType := (yX12_look, cX12_look, 2, (some .int))
set_option maxRecDepth 100000 in
theorem mv_X12_look : MV yX12_look cX12_look 2 (some .int) 1 := ⟨uu (i := 1548) (by decide +kernel) rfl, uu (i := 51) (by decide +kernel) rfl, uu (i := 127) (by decide +kernel) rfl, uu (i := 1549) rfl rfl, ⟨by decide +kernel, by decide +kernel, by decide +kernel⟩, by decide⟩
abbrev mX12_lover : MethodName × ByteArray × Nat × Option FieldType := (yX12_lover, cX12_lover, 6, (some .int))
set_option maxRecDepth 100000 in
theorem mv_X12_lover : MV yX12_lover cX12_lover 6 (some .int) 4 := ⟨uu (i := 1942) (by decide +kernel) rfl, uu (i := 1943) (by decide +kernel) rfl, uu (i := 127) (by decide +kernel) rfl, uu (i := 1944) rfl rfl, ⟨by decide +kernel, by decide +kernel, by decide +kernel⟩, by decide⟩
abbrev mX12_lovers : MethodName × ByteArray × Nat × Option FieldType := (yX12_lovers, cX12_lovers, 3, (some .int))
set_option maxRecDepth 100000 in
theorem mv_X12_lovers : MV yX12_lovers cX12_lovers 3 (some .int) 2 := ⟨uu (i := 1926) (by decide +kernel) rfl, uu (i := 1927) (by decide +kernel) rfl, uu (i := 127) (by decide +kernel) rfl, uu (i := 1928) rfl rfl, ⟨by decide +kernel, by decide +kernel, by decide +kernel⟩, by decide⟩
abbrev mX12_loversAt : MethodName × ByteArray × Nat × Option FieldType := (yX12_loversAt, cX12_loversAt, 7, (some .int))
set_option maxRecDepth 100000 in
theorem mv_X12_loversAt : MV yX12_loversAt cX12_loversAt 7 (some .int) 3 := ⟨uu (i := 1935) (by decide +kernel) rfl, uu (i := 106) (by decide +kernel) rfl, uu (i := 127) (by decide +kernel) rfl, uu (i := 1936) rfl rfl, ⟨by decide +kernel, by decide +kernel, by decide +kernel⟩, by decide⟩
abbrev mX12_mask : MethodName × ByteArray × Nat × Option FieldType := (yX12_mask, cX12_mask, 3, (some .int))
set_option maxRecDepth 100000 in
theorem mv_X12_mask : MV yX12_mask cX12_mask 3 (some .int) 2 := ⟨uu (i := 1996) (by decide +kernel) rfl, uu (i := 1997) (by decide +kernel) rfl, uu (i := 127) (by decide +kernel) rfl, uu (i := 1998) rfl rfl, ⟨by decide +kernel, by decide +kernel, by decide +kernel⟩, by decide⟩
abbrev mX12_maskLine : MethodName × ByteArray × Nat × Option FieldType := (yX12_maskLine, cX12_maskLine, 3, none)
set_option maxRecDepth 100000 in
theorem mv_X12_maskLine : MV yX12_maskLine cX12_maskLine 3 none 0 := ⟨uu (i := 1634) (by decide +kernel) rfl, uu (i := 67) (by decide +kernel) rfl, uu (i := 127) (by decide +kernel) rfl, uu (i := 1635) rfl rfl, ⟨by decide +kernel, by decide +kernel, by decide +kernel⟩, by decide⟩
abbrev mX12_maskOf : MethodName × ByteArray × Nat × Option FieldType := (yX12_maskOf, cX12_maskOf, 4, (some .int))
set_option maxRecDepth 100000 in
theorem ms_X12_maskOf : MS yX12_maskOf cX12_maskOf 4 (some .int) 3 := ⟨uu (i := 1690) (by decide +kernel) rfl, uu (i := 127) (by decide +kernel) rfl, uu (i := 1691) rfl rfl, ⟨by decide +kernel, by decide +kernel, by decide +kernel⟩, by decide⟩
abbrev mX12_may : MethodName × ByteArray × Nat × Option FieldType := (yX12_may, cX12_may, 6, (some .int))
set_option maxRecDepth 100000 in
theorem mv_X12_may : MV yX12_may cX12_may 6 (some .int) 2 := ⟨uu (i := 1914) (by decide +kernel) rfl, uu (i := 1915) (by decide +kernel) rfl, uu (i := 127) (by decide +kernel) rfl, uu (i := 1916) rfl rfl, ⟨by decide +kernel, by decide +kernel, by decide +kernel⟩, by decide⟩
abbrev mX12_mayWear : MethodName × ByteArray × Nat × Option FieldType := (yX12_mayWear, cX12_mayWear, 9, (some .boolean))
set_option maxRecDepth 100000 in
theorem mv_X12_mayWear : MV yX12_mayWear cX12_mayWear 9 (some .boolean) 4 := ⟨uu (i := 1896) (by decide +kernel) rfl, uu (i := 102) (by decide +kernel) rfl, uu (i := 127) (by decide +kernel) rfl, uu (i := 1897) rfl rfl, ⟨by decide +kernel, by decide +kernel, by decide +kernel⟩, by decide⟩
abbrev mX12_must : MethodName × ByteArray × Nat × Option FieldType := (yX12_must, cX12_must, 2, none)
set_option maxRecDepth 100000 in
theorem mv_X12_must : MV yX12_must cX12_must 2 none 1 := ⟨uu (i := 1586) (by decide +kernel) rfl, uu (i := 58) (by decide +kernel) rfl, uu (i := 127) (by decide +kernel) rfl, uu (i := 1587) rfl rfl, ⟨by decide +kernel, by decide +kernel, by decide +kernel⟩, by decide⟩
abbrev mX12_mustBeNew : MethodName × ByteArray × Nat × Option FieldType := (yX12_mustBeNew, cX12_mustBeNew, 1, none)
set_option maxRecDepth 100000 in
theorem mv_X12_mustBeNew : MV yX12_mustBeNew cX12_mustBeNew 1 none 0 := ⟨uu (i := 1603) (by decide +kernel) rfl, uu (i := 62) (by decide +kernel) rfl, uu (i := 127) (by decide +kernel) rfl, uu (i := 1604) rfl rfl, ⟨by decide +kernel, by decide +kernel, by decide +kernel⟩, by decide⟩
abbrev mX12_mustName : MethodName × ByteArray × Nat × Option FieldType := (yX12_mustName, cX12_mustName, 2, none)
set_option maxRecDepth 100000 in
theorem mv_X12_mustName : MV yX12_mustName cX12_mustName 2 none 0 := ⟨uu (i := 1607) (by decide +kernel) rfl, uu (i := 63) (by decide +kernel) rfl, uu (i := 127) (by decide +kernel) rfl, uu (i := 1608) rfl rfl, ⟨by decide +kernel, by decide +kernel, by decide +kernel⟩, by decide⟩
abbrev mX12_named : MethodName × ByteArray × Nat × Option FieldType := (yX12_named, cX12_named, 6, (some .int))
set_option maxRecDepth 100000 in
theorem mv_X12_named : MV yX12_named cX12_named 6 (some .int) 2 := ⟨uu (i := 1652) (by decide +kernel) rfl, uu (i := 70) (by decide +kernel) rfl, uu (i := 127) (by decide +kernel) rfl, uu (i := 1653) rfl rfl, ⟨by decide +kernel, by decide +kernel, by decide +kernel⟩, by decide⟩
abbrev mX12_needed : MethodName × ByteArray × Nat × Option FieldType := (yX12_needed, cX12_needed, 3, (some .int))
set_option maxRecDepth 100000 in
theorem mv_X12_needed : MV yX12_needed cX12_needed 3 (some .int) 2 := ⟨uu (i := 1835) (by decide +kernel) rfl, uu (i := 1836) (by decide +kernel) rfl, uu (i := 127) (by decide +kernel) rfl, uu (i := 1837) rfl rfl, ⟨by decide +kernel, by decide +kernel, by decide +kernel⟩, by decide⟩
abbrev mX12_next : MethodName × ByteArray × Nat × Option FieldType := (yX12_next, cX12_next, 4, none)
set_option maxRecDepth 100000 in
theorem mv_X12_next : MV yX12_next cX12_next 4 none 0 := ⟨uu (i := 1544) (by decide +kernel) rfl, uu (i := 50) (by decide +kernel) rfl, uu (i := 127) (by decide +kernel) rfl, uu (i := 1545) rfl rfl, ⟨by decide +kernel, by decide +kernel, by decide +kernel⟩, by decide⟩
abbrev mX12_no : MethodName × ByteArray × Nat × Option FieldType := (yX12_no, cX12_no, 2, (some .int))
set_option maxRecDepth 100000 in
theorem mv_X12_no : MV yX12_no cX12_no 2 (some .int) 1 := ⟨uu (i := 1540) (by decide +kernel) rfl, uu (i := 49) (by decide +kernel) rfl, uu (i := 127) (by decide +kernel) rfl, uu (i := 1541) rfl rfl, ⟨by decide +kernel, by decide +kernel, by decide +kernel⟩, by decide⟩
abbrev mX12_number : MethodName × ByteArray × Nat × Option FieldType := (yX12_number, cX12_number, 4, (some .int))
set_option maxRecDepth 100000 in
theorem mv_X12_number : MV yX12_number cX12_number 4 (some .int) 2 := ⟨uu (i := 1594) (by decide +kernel) rfl, uu (i := 60) (by decide +kernel) rfl, uu (i := 127) (by decide +kernel) rfl, uu (i := 1595) rfl rfl, ⟨by decide +kernel, by decide +kernel, by decide +kernel⟩, by decide⟩
abbrev mX12_odds : MethodName × ByteArray × Nat × Option FieldType := (yX12_odds, cX12_odds, 12, (some .int))
set_option maxRecDepth 100000 in
theorem mv_X12_odds : MV yX12_odds cX12_odds 12 (some .int) 4 := ⟨uu (i := 1907) (by decide +kernel) rfl, uu (i := 1908) (by decide +kernel) rfl, uu (i := 127) (by decide +kernel) rfl, uu (i := 1909) rfl rfl, ⟨by decide +kernel, by decide +kernel, by decide +kernel⟩, by decide⟩
abbrev mX12_owed : MethodName × ByteArray × Nat × Option FieldType := (yX12_owed, cX12_owed, 2, (some .int))
set_option maxRecDepth 100000 in
theorem mv_X12_owed : MV yX12_owed cX12_owed 2 (some .int) 1 := ⟨uu (i := 1760) (by decide +kernel) rfl, uu (i := 83) (by decide +kernel) rfl, uu (i := 127) (by decide +kernel) rfl, uu (i := 1761) rfl rfl, ⟨by decide +kernel, by decide +kernel, by decide +kernel⟩, by decide⟩
abbrev mX12_owes : MethodName × ByteArray × Nat × Option FieldType := (yX12_owes, cX12_owes, 2, (some .int))
set_option maxRecDepth 100000 in
theorem mv_X12_owes : MV yX12_owes cX12_owes 2 (some .int) 1 := ⟨uu (i := 1751) (by decide +kernel) rfl, uu (i := 1752) (by decide +kernel) rfl, uu (i := 127) (by decide +kernel) rfl, uu (i := 1753) rfl rfl, ⟨by decide +kernel, by decide +kernel, by decide +kernel⟩, by decide⟩
abbrev mX12_own : MethodName × ByteArray × Nat × Option FieldType := (yX12_own, cX12_own, 3, (some .int))
set_option maxRecDepth 100000 in
theorem mv_X12_own : MV yX12_own cX12_own 3 (some .int) 2 := ⟨uu (i := 1764) (by decide +kernel) rfl, uu (i := 84) (by decide +kernel) rfl, uu (i := 127) (by decide +kernel) rfl, uu (i := 1765) rfl rfl, ⟨by decide +kernel, by decide +kernel, by decide +kernel⟩, by decide⟩
abbrev mX12_pass : MethodName × ByteArray × Nat × Option FieldType := (yX12_pass, cX12_pass, 7, (some .boolean))
set_option maxRecDepth 100000 in
theorem mv_X12_pass : MV yX12_pass cX12_pass 7 (some .boolean) 3 := ⟨uu (i := 1968) (by decide +kernel) rfl, uu (i := 1969) (by decide +kernel) rfl, uu (i := 127) (by decide +kernel) rfl, uu (i := 1970) rfl rfl, ⟨by decide +kernel, by decide +kernel, by decide +kernel⟩, by decide⟩
abbrev mX12_passed : MethodName × ByteArray × Nat × Option FieldType := (yX12_passed, cX12_passed, 4, (some .int))
set_option maxRecDepth 100000 in
theorem mv_X12_passed : MV yX12_passed cX12_passed 4 (some .int) 2 := ⟨uu (i := 1648) (by decide +kernel) rfl, uu (i := 69) (by decide +kernel) rfl, uu (i := 127) (by decide +kernel) rfl, uu (i := 1649) rfl rfl, ⟨by decide +kernel, by decide +kernel, by decide +kernel⟩, by decide⟩
abbrev mX12_person : MethodName × ByteArray × Nat × Option FieldType := (yX12_person, cX12_person, 3, (some .int))
set_option maxRecDepth 100000 in
theorem mv_X12_person : MV yX12_person cX12_person 3 (some .int) 2 := ⟨uu (i := 2000) (by decide +kernel) rfl, uu (i := 2001) (by decide +kernel) rfl, uu (i := 127) (by decide +kernel) rfl, uu (i := 2002) rfl rfl, ⟨by decide +kernel, by decide +kernel, by decide +kernel⟩, by decide⟩
abbrev mX12_personLine : MethodName × ByteArray × Nat × Option FieldType := (yX12_personLine, cX12_personLine, 3, none)
set_option maxRecDepth 100000 in
theorem mv_X12_personLine : MV yX12_personLine cX12_personLine 3 none 0 := ⟨uu (i := 1643) (by decide +kernel) rfl, uu (i := 68) (by decide +kernel) rfl, uu (i := 127) (by decide +kernel) rfl, uu (i := 1644) rfl rfl, ⟨by decide +kernel, by decide +kernel, by decide +kernel⟩, by decide⟩
abbrev mX12_plan : MethodName × ByteArray × Nat × Option FieldType := (yX12_plan, cX12_plan, 7, (some .int))
set_option maxRecDepth 100000 in
theorem mv_X12_plan : MV yX12_plan cX12_plan 7 (some .int) 2 := ⟨uu (i := 1831) (by decide +kernel) rfl, uu (i := 1832) (by decide +kernel) rfl, uu (i := 127) (by decide +kernel) rfl, uu (i := 1833) rfl rfl, ⟨by decide +kernel, by decide +kernel, by decide +kernel⟩, by decide⟩
abbrev mX12_planWhy : MethodName × ByteArray × Nat × Option FieldType := (yX12_planWhy, cX12_planWhy, 2, (some .int))
set_option maxRecDepth 100000 in
theorem mv_X12_planWhy : MV yX12_planWhy cX12_planWhy 2 (some .int) 1 := ⟨uu (i := 1820) (by decide +kernel) rfl, uu (i := 91) (by decide +kernel) rfl, uu (i := 127) (by decide +kernel) rfl, uu (i := 1821) rfl rfl, ⟨by decide +kernel, by decide +kernel, by decide +kernel⟩, by decide⟩
abbrev mX12_promiseLine : MethodName × ByteArray × Nat × Option FieldType := (yX12_promiseLine, cX12_promiseLine, 2, none)
set_option maxRecDepth 100000 in
theorem mv_X12_promiseLine : MV yX12_promiseLine cX12_promiseLine 2 none 0 := ⟨uu (i := 1663) (by decide +kernel) rfl, uu (i := 72) (by decide +kernel) rfl, uu (i := 127) (by decide +kernel) rfl, uu (i := 1664) rfl rfl, ⟨by decide +kernel, by decide +kernel, by decide +kernel⟩, by decide⟩
abbrev mX12_putLending : MethodName × ByteArray × Nat × Option FieldType := (yX12_putLending, cX12_putLending, 7, none)
set_option maxRecDepth 100000 in
theorem ms_X12_putLending : MS yX12_putLending cX12_putLending 7 none 5 := ⟨uu (i := 1696) (by decide +kernel) rfl, uu (i := 127) (by decide +kernel) rfl, uu (i := 1697) rfl rfl, ⟨by decide +kernel, by decide +kernel, by decide +kernel⟩, by decide⟩
abbrev mX12_readLine : MethodName × ByteArray × Nat × Option FieldType := (yX12_readLine, cX12_readLine, 1, none)
set_option maxRecDepth 100000 in
theorem mv_X12_readLine : MV yX12_readLine cX12_readLine 1 none 0 := ⟨uu (i := 1558) (by decide +kernel) rfl, uu (i := 52) (by decide +kernel) rfl, uu (i := 127) (by decide +kernel) rfl, uu (i := 1559) rfl rfl, ⟨by decide +kernel, by decide +kernel, by decide +kernel⟩, by decide⟩
abbrev mX12_real : MethodName × ByteArray × Nat × Option FieldType := (yX12_real, cX12_real, 5, (some .int))
set_option maxRecDepth 100000 in
theorem mv_X12_real : MV yX12_real cX12_real 5 (some .int) 1 := ⟨uu (i := 1844) (by decide +kernel) rfl, uu (i := 1845) (by decide +kernel) rfl, uu (i := 127) (by decide +kernel) rfl, uu (i := 1846) rfl rfl, ⟨by decide +kernel, by decide +kernel, by decide +kernel⟩, by decide⟩
abbrev mX12_redo : MethodName × ByteArray × Nat × Option FieldType := (yX12_redo, cX12_redo, 1, (some .boolean))
set_option maxRecDepth 100000 in
theorem mv_X12_redo : MV yX12_redo cX12_redo 1 (some .boolean) 0 := ⟨uu (i := 1980) (by decide +kernel) rfl, uu (i := 1981) (by decide +kernel) rfl, uu (i := 127) (by decide +kernel) rfl, uu (i := 1982) rfl rfl, ⟨by decide +kernel, by decide +kernel, by decide +kernel⟩, by decide⟩
abbrev mX12_seen : MethodName × ByteArray × Nat × Option FieldType := (yX12_seen, cX12_seen, 3, (some .int))
set_option maxRecDepth 100000 in
theorem mv_X12_seen : MV yX12_seen cX12_seen 3 (some .int) 2 := ⟨uu (i := 1881) (by decide +kernel) rfl, uu (i := 99) (by decide +kernel) rfl, uu (i := 127) (by decide +kernel) rfl, uu (i := 1882) rfl rfl, ⟨by decide +kernel, by decide +kernel, by decide +kernel⟩, by decide⟩
abbrev mX12_seenLine : MethodName × ByteArray × Nat × Option FieldType := (yX12_seenLine, cX12_seenLine, 2, none)
set_option maxRecDepth 100000 in
theorem mv_X12_seenLine : MV yX12_seenLine cX12_seenLine 2 none 0 := ⟨uu (i := 1700) (by decide +kernel) rfl, uu (i := 75) (by decide +kernel) rfl, uu (i := 127) (by decide +kernel) rfl, uu (i := 1701) rfl rfl, ⟨by decide +kernel, by decide +kernel, by decide +kernel⟩, by decide⟩
abbrev mX12_sightsOf : MethodName × ByteArray × Nat × Option FieldType := (yX12_sightsOf, cX12_sightsOf, 4, (some .int))
set_option maxRecDepth 100000 in
theorem mv_X12_sightsOf : MV yX12_sightsOf cX12_sightsOf 4 (some .int) 1 := ⟨uu (i := 1877) (by decide +kernel) rfl, uu (i := 98) (by decide +kernel) rfl, uu (i := 127) (by decide +kernel) rfl, uu (i := 1878) rfl rfl, ⟨by decide +kernel, by decide +kernel, by decide +kernel⟩, by decide⟩
abbrev mX12_size : MethodName × ByteArray × Nat × Option FieldType := (yX12_size, cX12_size, 2, (some .int))
set_option maxRecDepth 100000 in
theorem mv_X12_size : MV yX12_size cX12_size 2 (some .int) 1 := ⟨uu (i := 2008) (by decide +kernel) rfl, uu (i := 2009) (by decide +kernel) rfl, uu (i := 127) (by decide +kernel) rfl, uu (i := 2010) rfl rfl, ⟨by decide +kernel, by decide +kernel, by decide +kernel⟩, by decide⟩
abbrev mX12_takes : MethodName × ByteArray × Nat × Option FieldType := (yX12_takes, cX12_takes, 2, (some .boolean))
set_option maxRecDepth 100000 in
theorem mv_X12_takes : MV yX12_takes cX12_takes 2 (some .boolean) 1 := ⟨uu (i := 1590) (by decide +kernel) rfl, uu (i := 59) (by decide +kernel) rfl, uu (i := 127) (by decide +kernel) rfl, uu (i := 1591) rfl rfl, ⟨by decide +kernel, by decide +kernel, by decide +kernel⟩, by decide⟩
abbrev mX12_tellNone : MethodName × ByteArray × Nat × Option FieldType := (yX12_tellNone, cX12_tellNone, 1, none)
set_option maxRecDepth 100000 in
theorem mv_X12_tellNone : MV yX12_tellNone cX12_tellNone 1 none 0 := ⟨uu (i := 1873) (by decide +kernel) rfl, uu (i := 97) (by decide +kernel) rfl, uu (i := 127) (by decide +kernel) rfl, uu (i := 1874) rfl rfl, ⟨by decide +kernel, by decide +kernel, by decide +kernel⟩, by decide⟩
abbrev mX12_terms : MethodName × ByteArray × Nat × Option FieldType := (yX12_terms, cX12_terms, 4, (some .int))
set_option maxRecDepth 100000 in
theorem mv_X12_terms : MV yX12_terms cX12_terms 4 (some .int) 0 := ⟨uu (i := 1848) (by decide +kernel) rfl, uu (i := 1849) (by decide +kernel) rfl, uu (i := 127) (by decide +kernel) rfl, uu (i := 1850) rfl rfl, ⟨by decide +kernel, by decide +kernel, by decide +kernel⟩, by decide⟩
abbrev mX12_thrown : MethodName × ByteArray × Nat × Option FieldType := (yX12_thrown, cX12_thrown, 1, (some .int))
set_option maxRecDepth 100000 in
theorem mv_X12_thrown : MV yX12_thrown cX12_thrown 1 (some .int) 0 := ⟨uu (i := 1520) (by decide +kernel) rfl, uu (i := 1521) (by decide +kernel) rfl, uu (i := 127) (by decide +kernel) rfl, uu (i := 1522) rfl rfl, ⟨by decide +kernel, by decide +kernel, by decide +kernel⟩, by decide⟩
abbrev mX12_told : MethodName × ByteArray × Nat × Option FieldType := (yX12_told, cX12_told, 4, (some .int))
set_option maxRecDepth 100000 in
theorem mv_X12_told : MV yX12_told cX12_told 4 (some .int) 3 := ⟨uu (i := 1582) (by decide +kernel) rfl, uu (i := 57) (by decide +kernel) rfl, uu (i := 127) (by decide +kernel) rfl, uu (i := 1583) rfl rfl, ⟨by decide +kernel, by decide +kernel, by decide +kernel⟩, by decide⟩
abbrev mX12_townLine : MethodName × ByteArray × Nat × Option FieldType := (yX12_townLine, cX12_townLine, 2, none)
set_option maxRecDepth 100000 in
theorem mv_X12_townLine : MV yX12_townLine cX12_townLine 2 none 0 := ⟨uu (i := 1577) (by decide +kernel) rfl, uu (i := 56) (by decide +kernel) rfl, uu (i := 127) (by decide +kernel) rfl, uu (i := 1578) rfl rfl, ⟨by decide +kernel, by decide +kernel, by decide +kernel⟩, by decide⟩
abbrev mX12_trouble : MethodName × ByteArray × Nat × Option FieldType := (yX12_trouble, cX12_trouble, 1, (some .int))
set_option maxRecDepth 100000 in
theorem mv_X12_trouble : MV yX12_trouble cX12_trouble 1 (some .int) 0 := ⟨uu (i := 2012) (by decide +kernel) rfl, uu (i := 2013) (by decide +kernel) rfl, uu (i := 127) (by decide +kernel) rfl, uu (i := 2014) rfl rfl, ⟨by decide +kernel, by decide +kernel, by decide +kernel⟩, by decide⟩
abbrev mX12_trueOf : MethodName × ByteArray × Nat × Option FieldType := (yX12_trueOf, cX12_trueOf, 3, (some .int))
set_option maxRecDepth 100000 in
theorem mv_X12_trueOf : MV yX12_trueOf cX12_trueOf 3 (some .int) 1 := ⟨uu (i := 1865) (by decide +kernel) rfl, uu (i := 95) (by decide +kernel) rfl, uu (i := 127) (by decide +kernel) rfl, uu (i := 1866) rfl rfl, ⟨by decide +kernel, by decide +kernel, by decide +kernel⟩, by decide⟩
abbrev mX12_undo : MethodName × ByteArray × Nat × Option FieldType := (yX12_undo, cX12_undo, 1, (some .boolean))
set_option maxRecDepth 100000 in
theorem mv_X12_undo : MV yX12_undo cX12_undo 1 (some .boolean) 0 := ⟨uu (i := 1976) (by decide +kernel) rfl, uu (i := 1977) (by decide +kernel) rfl, uu (i := 127) (by decide +kernel) rfl, uu (i := 1978) rfl rfl, ⟨by decide +kernel, by decide +kernel, by decide +kernel⟩, by decide⟩
abbrev mX12_untrue : MethodName × ByteArray × Nat × Option FieldType := (yX12_untrue, cX12_untrue, 3, (some .int))
set_option maxRecDepth 100000 in
theorem mv_X12_untrue : MV yX12_untrue cX12_untrue 3 (some .int) 1 := ⟨uu (i := 1918) (by decide +kernel) rfl, uu (i := 1919) (by decide +kernel) rfl, uu (i := 127) (by decide +kernel) rfl, uu (i := 1920) rfl rfl, ⟨by decide +kernel, by decide +kernel, by decide +kernel⟩, by decide⟩
abbrev mX12_value : MethodName × ByteArray × Nat × Option FieldType := (yX12_value, cX12_value, 3, (some .int))
set_option maxRecDepth 100000 in
theorem mv_X12_value : MV yX12_value cX12_value 3 (some .int) 1 := ⟨uu (i := 1815) (by decide +kernel) rfl, uu (i := 1816) (by decide +kernel) rfl, uu (i := 127) (by decide +kernel) rfl, uu (i := 1817) rfl rfl, ⟨by decide +kernel, by decide +kernel, by decide +kernel⟩, by decide⟩
abbrev mX12_wearer : MethodName × ByteArray × Nat × Option FieldType := (yX12_wearer, cX12_wearer, 3, (some .int))
set_option maxRecDepth 100000 in
theorem mv_X12_wearer : MV yX12_wearer cX12_wearer 3 (some .int) 2 := ⟨uu (i := 1735) (by decide +kernel) rfl, uu (i := 1736) (by decide +kernel) rfl, uu (i := 127) (by decide +kernel) rfl, uu (i := 1737) rfl rfl, ⟨by decide +kernel, by decide +kernel, by decide +kernel⟩, by decide⟩
abbrev mX12_wearerOf : MethodName × ByteArray × Nat × Option FieldType := (yX12_wearerOf, cX12_wearerOf, 4, (some .int))
set_option maxRecDepth 100000 in
theorem mv_X12_wearerOf : MV yX12_wearerOf cX12_wearerOf 4 (some .int) 2 := ⟨uu (i := 1744) (by decide +kernel) rfl, uu (i := 81) (by decide +kernel) rfl, uu (i := 127) (by decide +kernel) rfl, uu (i := 1745) rfl rfl, ⟨by decide +kernel, by decide +kernel, by decide +kernel⟩, by decide⟩
abbrev mX12_wearers : MethodName × ByteArray × Nat × Option FieldType := (yX12_wearers, cX12_wearers, 3, (some .int))
set_option maxRecDepth 100000 in
theorem mv_X12_wearers : MV yX12_wearers cX12_wearers 3 (some .int) 1 := ⟨uu (i := 1860) (by decide +kernel) rfl, uu (i := 1861) (by decide +kernel) rfl, uu (i := 127) (by decide +kernel) rfl, uu (i := 1862) rfl rfl, ⟨by decide +kernel, by decide +kernel, by decide +kernel⟩, by decide⟩
abbrev mX12_where : MethodName × ByteArray × Nat × Option FieldType := (yX12_where, cX12_where, 1, (some .int))
set_option maxRecDepth 100000 in
theorem mv_X12_where : MV yX12_where cX12_where 1 (some .int) 0 := ⟨uu (i := 1719) (by decide +kernel) rfl, uu (i := 1720) (by decide +kernel) rfl, uu (i := 127) (by decide +kernel) rfl, uu (i := 1721) rfl rfl, ⟨by decide +kernel, by decide +kernel, by decide +kernel⟩, by decide⟩
abbrev mX12_within : MethodName × ByteArray × Nat × Option FieldType := (yX12_within, cX12_within, 3, (some .boolean))
set_option maxRecDepth 100000 in
theorem ms_X12_within : MS yX12_within cX12_within 3 (some .boolean) 3 := ⟨uu (i := 1536) (by decide +kernel) rfl, uu (i := 127) (by decide +kernel) rfl, uu (i := 1537) rfl rfl, ⟨by decide +kernel, by decide +kernel, by decide +kernel⟩, by decide⟩
abbrev mX12_without : MethodName × ByteArray × Nat × Option FieldType := (yX12_without, cX12_without, 1, (some .int))
set_option maxRecDepth 100000 in
theorem ms_X12_without : MS yX12_without cX12_without 1 (some .int) 1 := ⟨uu (i := 1687) (by decide +kernel) rfl, uu (i := 127) (by decide +kernel) rfl, uu (i := 1688) rfl rfl, ⟨by decide +kernel, by decide +kernel, by decide +kernel⟩, by decide⟩
abbrev mX12_workLine : MethodName × ByteArray × Nat × Option FieldType := (yX12_workLine, cX12_workLine, 2, none)
set_option maxRecDepth 100000 in
theorem mv_X12_workLine : MV yX12_workLine cX12_workLine 2 none 0 := ⟨uu (i := 1599) (by decide +kernel) rfl, uu (i := 61) (by decide +kernel) rfl, uu (i := 127) (by decide +kernel) rfl, uu (i := 1600) rfl rfl, ⟨by decide +kernel, by decide +kernel, by decide +kernel⟩, by decide⟩
abbrev mX12_worn : MethodName × ByteArray × Nat × Option FieldType := (yX12_worn, cX12_worn, 4, (some .int))
set_option maxRecDepth 100000 in
theorem mv_X12_worn : MV yX12_worn cX12_worn 4 (some .int) 2 := ⟨uu (i := 1747) (by decide +kernel) rfl, uu (i := 1748) (by decide +kernel) rfl, uu (i := 127) (by decide +kernel) rfl, uu (i := 1749) rfl rfl, ⟨by decide +kernel, by decide +kernel, by decide +kernel⟩, by decide⟩
abbrev mX12_worth : MethodName × ByteArray × Nat × Option FieldType := (yX12_worth, cX12_worth, 3, (some .int))
set_option maxRecDepth 100000 in
theorem mv_X12_worth : MV yX12_worth cX12_worth 3 (some .int) 0 := ⟨uu (i := 1839) (by decide +kernel) rfl, uu (i := 1840) (by decide +kernel) rfl, uu (i := 127) (by decide +kernel) rfl, uu (i := 1841) rfl rfl, ⟨by decide +kernel, by decide +kernel, by decide +kernel⟩, by decide⟩
abbrev mX12_worthBy : MethodName × ByteArray × Nat × Option FieldType := (yX12_worthBy, cX12_worthBy, 6, (some .int))
set_option maxRecDepth 100000 in
theorem mv_X12_worthBy : MV yX12_worthBy cX12_worthBy 6 (some .int) 3 := ⟨uu (i := 1828) (by decide +kernel) rfl, uu (i := 93) (by decide +kernel) rfl, uu (i := 127) (by decide +kernel) rfl, uu (i := 1829) rfl rfl, ⟨by decide +kernel, by decide +kernel, by decide +kernel⟩, by decide⟩
abbrev mX12_wouldBe : MethodName × ByteArray × Nat × Option FieldType := (yX12_wouldBe, cX12_wouldBe, 5, (some .boolean))
set_option maxRecDepth 100000 in
theorem mv_X12_wouldBe : MV yX12_wouldBe cX12_wouldBe 5 (some .boolean) 2 := ⟨uu (i := 1780) (by decide +kernel) rfl, uu (i := 87) (by decide +kernel) rfl, uu (i := 127) (by decide +kernel) rfl, uu (i := 1781) rfl rfl, ⟨by decide +kernel, by decide +kernel, by decide +kernel⟩, by decide⟩
abbrev mX12_wrong : MethodName × ByteArray × Nat × Option FieldType := (yX12_wrong, cX12_wrong, 3, none)
set_option maxRecDepth 100000 in
theorem mv_X12_wrong : MV yX12_wrong cX12_wrong 3 none 2 := ⟨uu (i := 1573) (by decide +kernel) rfl, uu (i := 55) (by decide +kernel) rfl, uu (i := 127) (by decide +kernel) rfl, uu (i := 1574) rfl rfl, ⟨by decide +kernel, by decide +kernel, by decide +kernel⟩, by decide⟩
abbrev mX1_begin : MethodName × ByteArray × Nat × Option FieldType := (yX1_begin, cX1_begin, 2, none)
set_option maxRecDepth 100000 in
theorem mv_X1_begin : MV yX1_begin cX1_begin 2 none 1 := ⟨uu (i := 885) (by decide +kernel) rfl, uu (i := 886) (by decide +kernel) rfl, uu (i := 124) (by decide +kernel) rfl, uu (i := 887) rfl rfl, ⟨by decide +kernel, by decide +kernel, by decide +kernel⟩, by decide⟩
abbrev mX1_dropImages : MethodName × ByteArray × Nat × Option FieldType := (yX1_dropImages, cX1_dropImages, 1, none)
set_option maxRecDepth 100000 in
theorem mv_X1_dropImages : MV yX1_dropImages cX1_dropImages 1 none 0 := ⟨uu (i := 881) (by decide +kernel) rfl, uu (i := 882) (by decide +kernel) rfl, uu (i := 124) (by decide +kernel) rfl, uu (i := 883) rfl rfl, ⟨by decide +kernel, by decide +kernel, by decide +kernel⟩, by decide⟩
abbrev mX1_init : MethodName × ByteArray × Nat × Option FieldType := (yX1_init, cX1_init, 2, none)
set_option maxRecDepth 100000 in
theorem mi_X1_init : MI yX1_init cX1_init 2 0 := ⟨uu (i := 527) (by decide +kernel) rfl, uu (i := 124) (by decide +kernel) rfl, uu (i := 528) rfl rfl, ⟨by decide +kernel, by decide +kernel, by decide +kernel⟩, by decide, rfl⟩
abbrev mX1_keepImage : MethodName × ByteArray × Nat × Option FieldType := (yX1_keepImage, cX1_keepImage, 1, (some .int))
set_option maxRecDepth 100000 in
theorem mv_X1_keepImage : MV yX1_keepImage cX1_keepImage 1 (some .int) 0 := ⟨uu (i := 1315) (by decide +kernel) rfl, uu (i := 1316) (by decide +kernel) rfl, uu (i := 124) (by decide +kernel) rfl, uu (i := 1317) rfl rfl, ⟨by decide +kernel, by decide +kernel, by decide +kernel⟩, by decide⟩
abbrev mX1_now : MethodName × ByteArray × Nat × Option FieldType := (yX1_now, cX1_now, 1, (some (.object "LentMasks$Ledger")))
set_option maxRecDepth 100000 in
theorem mv_X1_now : MV yX1_now cX1_now 1 (some (.object "LentMasks$Ledger")) 0 := ⟨uu (i := 928) (by decide +kernel) rfl, uu (i := 929) (by decide +kernel) rfl, uu (i := 124) (by decide +kernel) rfl, uu (i := 930) rfl rfl, ⟨by decide +kernel, by decide +kernel, by decide +kernel⟩, by decide⟩
abbrev mX1_step : MethodName × ByteArray × Nat × Option FieldType := (yX1_step, cX1_step, 2, (some (.object "LentMasks$Ledger")))
set_option maxRecDepth 100000 in
theorem mv_X1_step : MV yX1_step cX1_step 2 (some (.object "LentMasks$Ledger")) 0 := ⟨uu (i := 1268) (by decide +kernel) rfl, uu (i := 1269) (by decide +kernel) rfl, uu (i := 124) (by decide +kernel) rfl, uu (i := 1270) rfl rfl, ⟨by decide +kernel, by decide +kernel, by decide +kernel⟩, by decide⟩
abbrev mX1_stepBack : MethodName × ByteArray × Nat × Option FieldType := (yX1_stepBack, cX1_stepBack, 1, (some .boolean))
set_option maxRecDepth 100000 in
theorem mv_X1_stepBack : MV yX1_stepBack cX1_stepBack 1 (some .boolean) 0 := ⟨uu (i := 1299) (by decide +kernel) rfl, uu (i := 1300) (by decide +kernel) rfl, uu (i := 124) (by decide +kernel) rfl, uu (i := 1301) rfl rfl, ⟨by decide +kernel, by decide +kernel, by decide +kernel⟩, by decide⟩
abbrev mX1_stepForth : MethodName × ByteArray × Nat × Option FieldType := (yX1_stepForth, cX1_stepForth, 1, (some .boolean))
set_option maxRecDepth 100000 in
theorem mv_X1_stepForth : MV yX1_stepForth cX1_stepForth 1 (some .boolean) 0 := ⟨uu (i := 1307) (by decide +kernel) rfl, uu (i := 1308) (by decide +kernel) rfl, uu (i := 124) (by decide +kernel) rfl, uu (i := 1309) rfl rfl, ⟨by decide +kernel, by decide +kernel, by decide +kernel⟩, by decide⟩
abbrev mX2_add : MethodName × ByteArray × Nat × Option FieldType := (yX2_add, cX2_add, 7, none)
set_option maxRecDepth 100000 in
theorem mv_X2_add : MV yX2_add cX2_add 7 none 4 := ⟨uu (i := 844) (by decide +kernel) rfl, uu (i := 845) (by decide +kernel) rfl, uu (i := 113) (by decide +kernel) rfl, uu (i := 846) rfl rfl, ⟨by decide +kernel, by decide +kernel, by decide +kernel⟩, by decide⟩
abbrev mX2_clear : MethodName × ByteArray × Nat × Option FieldType := (yX2_clear, cX2_clear, 1, none)
set_option maxRecDepth 100000 in
theorem mv_X2_clear : MV yX2_clear cX2_clear 1 none 0 := ⟨uu (i := 673) (by decide +kernel) rfl, uu (i := 674) (by decide +kernel) rfl, uu (i := 113) (by decide +kernel) rfl, uu (i := 675) rfl rfl, ⟨by decide +kernel, by decide +kernel, by decide +kernel⟩, by decide⟩
abbrev mX2_copyFrom : MethodName × ByteArray × Nat × Option FieldType := (yX2_copyFrom, cX2_copyFrom, 2, none)
set_option maxRecDepth 100000 in
theorem mv_X2_copyFrom : MV yX2_copyFrom cX2_copyFrom 2 none 1 := ⟨uu (i := 889) (by decide +kernel) rfl, uu (i := 890) (by decide +kernel) rfl, uu (i := 113) (by decide +kernel) rfl, uu (i := 891) rfl rfl, ⟨by decide +kernel, by decide +kernel, by decide +kernel⟩, by decide⟩
abbrev mX2_endAhead : MethodName × ByteArray × Nat × Option FieldType := (yX2_endAhead, cX2_endAhead, 4, none)
set_option maxRecDepth 100000 in
theorem mv_X2_endAhead : MV yX2_endAhead cX2_endAhead 4 none 2 := ⟨uu (i := 1279) (by decide +kernel) rfl, uu (i := 1280) (by decide +kernel) rfl, uu (i := 113) (by decide +kernel) rfl, uu (i := 1281) rfl rfl, ⟨by decide +kernel, by decide +kernel, by decide +kernel⟩, by decide⟩
abbrev mX2_find : MethodName × ByteArray × Nat × Option FieldType := (yX2_find, cX2_find, 4, (some .int))
set_option maxRecDepth 100000 in
theorem mv_X2_find : MV yX2_find cX2_find 4 (some .int) 2 := ⟨uu (i := 936) (by decide +kernel) rfl, uu (i := 937) (by decide +kernel) rfl, uu (i := 113) (by decide +kernel) rfl, uu (i := 938) rfl rfl, ⟨by decide +kernel, by decide +kernel, by decide +kernel⟩, by decide⟩
abbrev mX2_firstDay : MethodName × ByteArray × Nat × Option FieldType := (yX2_firstDay, cX2_firstDay, 2, (some .int))
set_option maxRecDepth 100000 in
theorem mv_X2_firstDay : MV yX2_firstDay cX2_firstDay 2 (some .int) 1 := ⟨uu (i := 828) (by decide +kernel) rfl, uu (i := 829) (by decide +kernel) rfl, uu (i := 113) (by decide +kernel) rfl, uu (i := 830) rfl rfl, ⟨by decide +kernel, by decide +kernel, by decide +kernel⟩, by decide⟩
abbrev mX2_flipBreaking : MethodName × ByteArray × Nat × Option FieldType := (yX2_flipBreaking, cX2_flipBreaking, 3, none)
set_option maxRecDepth 100000 in
theorem mv_X2_flipBreaking : MV yX2_flipBreaking cX2_flipBreaking 3 none 2 := ⟨uu (i := 869) (by decide +kernel) rfl, uu (i := 870) (by decide +kernel) rfl, uu (i := 113) (by decide +kernel) rfl, uu (i := 871) rfl rfl, ⟨by decide +kernel, by decide +kernel, by decide +kernel⟩, by decide⟩
abbrev mX2_init : MethodName × ByteArray × Nat × Option FieldType := (yX2_init, cX2_init, 1, none)
set_option maxRecDepth 100000 in
theorem mi_X2_init : MI yX2_init cX2_init 1 0 := ⟨uu (i := 161) (by decide +kernel) rfl, uu (i := 113) (by decide +kernel) rfl, uu (i := 162) rfl rfl, ⟨by decide +kernel, by decide +kernel, by decide +kernel⟩, by decide, rfl⟩
abbrev mX2_isBare : MethodName × ByteArray × Nat × Option FieldType := (yX2_isBare, cX2_isBare, 5, (some .boolean))
set_option maxRecDepth 100000 in
theorem mv_X2_isBare : MV yX2_isBare cX2_isBare 5 (some .boolean) 3 := ⟨uu (i := 836) (by decide +kernel) rfl, uu (i := 837) (by decide +kernel) rfl, uu (i := 113) (by decide +kernel) rfl, uu (i := 838) rfl rfl, ⟨by decide +kernel, by decide +kernel, by decide +kernel⟩, by decide⟩
abbrev mX2_isBreaking : MethodName × ByteArray × Nat × Option FieldType := (yX2_isBreaking, cX2_isBreaking, 3, (some .boolean))
set_option maxRecDepth 100000 in
theorem mv_X2_isBreaking : MV yX2_isBreaking cX2_isBreaking 3 (some .boolean) 2 := ⟨uu (i := 865) (by decide +kernel) rfl, uu (i := 866) (by decide +kernel) rfl, uu (i := 113) (by decide +kernel) rfl, uu (i := 867) rfl rfl, ⟨by decide +kernel, by decide +kernel, by decide +kernel⟩, by decide⟩
abbrev mX2_isFull : MethodName × ByteArray × Nat × Option FieldType := (yX2_isFull, cX2_isFull, 1, (some .boolean))
set_option maxRecDepth 100000 in
theorem mv_X2_isFull : MV yX2_isFull cX2_isFull 1 (some .boolean) 0 := ⟨uu (i := 848) (by decide +kernel) rfl, uu (i := 849) (by decide +kernel) rfl, uu (i := 113) (by decide +kernel) rfl, uu (i := 850) rfl rfl, ⟨by decide +kernel, by decide +kernel, by decide +kernel⟩, by decide⟩
abbrev mX2_isOnPeg : MethodName × ByteArray × Nat × Option FieldType := (yX2_isOnPeg, cX2_isOnPeg, 5, (some .boolean))
set_option maxRecDepth 100000 in
theorem mv_X2_isOnPeg : MV yX2_isOnPeg cX2_isOnPeg 5 (some .boolean) 3 := ⟨uu (i := 816) (by decide +kernel) rfl, uu (i := 817) (by decide +kernel) rfl, uu (i := 113) (by decide +kernel) rfl, uu (i := 818) rfl rfl, ⟨by decide +kernel, by decide +kernel, by decide +kernel⟩, by decide⟩
abbrev mX2_lastDay : MethodName × ByteArray × Nat × Option FieldType := (yX2_lastDay, cX2_lastDay, 2, (some .int))
set_option maxRecDepth 100000 in
theorem mv_X2_lastDay : MV yX2_lastDay cX2_lastDay 2 (some .int) 1 := ⟨uu (i := 832) (by decide +kernel) rfl, uu (i := 833) (by decide +kernel) rfl, uu (i := 113) (by decide +kernel) rfl, uu (i := 834) rfl rfl, ⟨by decide +kernel, by decide +kernel, by decide +kernel⟩, by decide⟩
abbrev mX2_maskAt : MethodName × ByteArray × Nat × Option FieldType := (yX2_maskAt, cX2_maskAt, 2, (some .int))
set_option maxRecDepth 100000 in
theorem mv_X2_maskAt : MV yX2_maskAt cX2_maskAt 2 (some .int) 1 := ⟨uu (i := 820) (by decide +kernel) rfl, uu (i := 821) (by decide +kernel) rfl, uu (i := 113) (by decide +kernel) rfl, uu (i := 822) rfl rfl, ⟨by decide +kernel, by decide +kernel, by decide +kernel⟩, by decide⟩
abbrev mX2_maskOf : MethodName × ByteArray × Nat × Option FieldType := (yX2_maskOf, cX2_maskOf, 4, (some .int))
set_option maxRecDepth 100000 in
theorem mv_X2_maskOf : MV yX2_maskOf cX2_maskOf 4 (some .int) 2 := ⟨uu (i := 944) (by decide +kernel) rfl, uu (i := 945) (by decide +kernel) rfl, uu (i := 113) (by decide +kernel) rfl, uu (i := 946) rfl rfl, ⟨by decide +kernel, by decide +kernel, by decide +kernel⟩, by decide⟩
abbrev mX2_personAt : MethodName × ByteArray × Nat × Option FieldType := (yX2_personAt, cX2_personAt, 2, (some .int))
set_option maxRecDepth 100000 in
theorem mv_X2_personAt : MV yX2_personAt cX2_personAt 2 (some .int) 1 := ⟨uu (i := 840) (by decide +kernel) rfl, uu (i := 841) (by decide +kernel) rfl, uu (i := 113) (by decide +kernel) rfl, uu (i := 842) rfl rfl, ⟨by decide +kernel, by decide +kernel, by decide +kernel⟩, by decide⟩
abbrev mX2_personIn : MethodName × ByteArray × Nat × Option FieldType := (yX2_personIn, cX2_personIn, 4, (some .int))
set_option maxRecDepth 100000 in
theorem mv_X2_personIn : MV yX2_personIn cX2_personIn 4 (some .int) 2 := ⟨uu (i := 932) (by decide +kernel) rfl, uu (i := 933) (by decide +kernel) rfl, uu (i := 113) (by decide +kernel) rfl, uu (i := 934) rfl rfl, ⟨by decide +kernel, by decide +kernel, by decide +kernel⟩, by decide⟩
abbrev mX2_touches : MethodName × ByteArray × Nat × Option FieldType := (yX2_touches, cX2_touches, 4, (some .boolean))
set_option maxRecDepth 100000 in
theorem mv_X2_touches : MV yX2_touches cX2_touches 4 (some .boolean) 3 := ⟨uu (i := 825) (by decide +kernel) rfl, uu (i := 25) (by decide +kernel) rfl, uu (i := 113) (by decide +kernel) rfl, uu (i := 826) rfl rfl, ⟨by decide +kernel, by decide +kernel, by decide +kernel⟩, by decide⟩
abbrev mX3_hands : MethodName × ByteArray × Nat × Option FieldType := (yX3_hands, cX3_hands, 1, (some .int))
set_option maxRecDepth 100000 in
theorem mv_X3_hands : MV yX3_hands cX3_hands 1 (some .int) 0 := ⟨uu (i := 984) (by decide +kernel) rfl, uu (i := 985) (by decide +kernel) rfl, uu (i := 114) (by decide +kernel) rfl, uu (i := 986) rfl rfl, ⟨by decide +kernel, by decide +kernel, by decide +kernel⟩, by decide⟩
abbrev mX3_init : MethodName × ByteArray × Nat × Option FieldType := (yX3_init, cX3_init, 1, none)
set_option maxRecDepth 100000 in
theorem mi_X3_init : MI yX3_init cX3_init 1 0 := ⟨uu (i := 180) (by decide +kernel) rfl, uu (i := 114) (by decide +kernel) rfl, uu (i := 181) rfl rfl, ⟨by decide +kernel, by decide +kernel, by decide +kernel⟩, by decide, rfl⟩
abbrev mX3_suits : MethodName × ByteArray × Nat × Option FieldType := (yX3_suits, cX3_suits, 3, (some .boolean))
set_option maxRecDepth 100000 in
theorem mv_X3_suits : MV yX3_suits cX3_suits 3 (some .boolean) 1 := ⟨uu (i := 809) (by decide +kernel) rfl, uu (i := 810) (by decide +kernel) rfl, uu (i := 114) (by decide +kernel) rfl, uu (i := 811) rfl rfl, ⟨by decide +kernel, by decide +kernel, by decide +kernel⟩, by decide⟩
abbrev mX4_init : MethodName × ByteArray × Nat × Option FieldType := (yX4_init, cX4_init, 1, none)
set_option maxRecDepth 100000 in
theorem mi_X4_init : MI yX4_init cX4_init 1 0 := ⟨uu (i := 201) (by decide +kernel) rfl, uu (i := 115) (by decide +kernel) rfl, uu (i := 202) rfl rfl, ⟨by decide +kernel, by decide +kernel, by decide +kernel⟩, by decide, rfl⟩
abbrev mX4_knows : MethodName × ByteArray × Nat × Option FieldType := (yX4_knows, cX4_knows, 2, (some .boolean))
set_option maxRecDepth 100000 in
theorem mv_X4_knows : MV yX4_knows cX4_knows 2 (some .boolean) 1 := ⟨uu (i := 774) (by decide +kernel) rfl, uu (i := 775) (by decide +kernel) rfl, uu (i := 115) (by decide +kernel) rfl, uu (i := 776) rfl rfl, ⟨by decide +kernel, by decide +kernel, by decide +kernel⟩, by decide⟩
abbrev mX5_choice : MethodName × ByteArray × Nat × Option FieldType := (yX5_choice, cX5_choice, 5, (some .int))
set_option maxRecDepth 100000 in
theorem mv_X5_choice : MV yX5_choice cX5_choice 5 (some .int) 1 := ⟨uu (i := 1083) (by decide +kernel) rfl, uu (i := 1084) (by decide +kernel) rfl, uu (i := 125) (by decide +kernel) rfl, uu (i := 1085) rfl rfl, ⟨by decide +kernel, by decide +kernel, by decide +kernel⟩, by decide⟩
abbrev mX5_firstBest : MethodName × ByteArray × Nat × Option FieldType := (yX5_firstBest, cX5_firstBest, 6, (some .int))
set_option maxRecDepth 100000 in
theorem mv_X5_firstBest : MV yX5_firstBest cX5_firstBest 6 (some .int) 2 := ⟨uu (i := 1088) (by decide +kernel) rfl, uu (i := 35) (by decide +kernel) rfl, uu (i := 125) (by decide +kernel) rfl, uu (i := 1089) rfl rfl, ⟨by decide +kernel, by decide +kernel, by decide +kernel⟩, by decide⟩
abbrev mX5_init : MethodName × ByteArray × Nat × Option FieldType := (yX5_init, cX5_init, 1, none)
set_option maxRecDepth 100000 in
theorem mi_X5_init : MI yX5_init cX5_init 1 0 := ⟨uu (i := 559) (by decide +kernel) rfl, uu (i := 125) (by decide +kernel) rfl, uu (i := 560) rfl rfl, ⟨by decide +kernel, by decide +kernel, by decide +kernel⟩, by decide, rfl⟩
abbrev mX5_most : MethodName × ByteArray × Nat × Option FieldType := (yX5_most, cX5_most, 2, (some .int))
set_option maxRecDepth 100000 in
theorem mv_X5_most : MV yX5_most cX5_most 2 (some .int) 1 := ⟨uu (i := 1075) (by decide +kernel) rfl, uu (i := 1076) (by decide +kernel) rfl, uu (i := 125) (by decide +kernel) rfl, uu (i := 1077) rfl rfl, ⟨by decide +kernel, by decide +kernel, by decide +kernel⟩, by decide⟩
abbrev mX5_mostFrom : MethodName × ByteArray × Nat × Option FieldType := (yX5_mostFrom, cX5_mostFrom, 6, (some .int))
set_option maxRecDepth 100000 in
theorem mv_X5_mostFrom : MV yX5_mostFrom cX5_mostFrom 6 (some .int) 2 := ⟨uu (i := 1063) (by decide +kernel) rfl, uu (i := 32) (by decide +kernel) rfl, uu (i := 125) (by decide +kernel) rfl, uu (i := 1064) rfl rfl, ⟨by decide +kernel, by decide +kernel, by decide +kernel⟩, by decide⟩
abbrev mX5_weigh : MethodName × ByteArray × Nat × Option FieldType := (yX5_weigh, cX5_weigh, 5, none)
set_option maxRecDepth 100000 in
theorem mv_X5_weigh : MV yX5_weigh cX5_weigh 5 none 2 := ⟨uu (i := 1043) (by decide +kernel) rfl, uu (i := 1044) (by decide +kernel) rfl, uu (i := 125) (by decide +kernel) rfl, uu (i := 1045) rfl rfl, ⟨by decide +kernel, by decide +kernel, by decide +kernel⟩, by decide⟩
abbrev mX5_weighMask : MethodName × ByteArray × Nat × Option FieldType := (yX5_weighMask, cX5_weighMask, 5, none)
set_option maxRecDepth 100000 in
theorem mv_X5_weighMask : MV yX5_weighMask cX5_weighMask 5 none 2 := ⟨uu (i := 1048) (by decide +kernel) rfl, uu (i := 31) (by decide +kernel) rfl, uu (i := 125) (by decide +kernel) rfl, uu (i := 1049) rfl rfl, ⟨by decide +kernel, by decide +kernel, by decide +kernel⟩, by decide⟩
abbrev mX5_withPeg : MethodName × ByteArray × Nat × Option FieldType := (yX5_withPeg, cX5_withPeg, 3, (some .int))
set_option maxRecDepth 100000 in
theorem mv_X5_withPeg : MV yX5_withPeg cX5_withPeg 3 (some .int) 2 := ⟨uu (i := 1067) (by decide +kernel) rfl, uu (i := 33) (by decide +kernel) rfl, uu (i := 125) (by decide +kernel) rfl, uu (i := 1068) rfl rfl, ⟨by decide +kernel, by decide +kernel, by decide +kernel⟩, by decide⟩
abbrev mX5_withPerson : MethodName × ByteArray × Nat × Option FieldType := (yX5_withPerson, cX5_withPerson, 4, (some .int))
set_option maxRecDepth 100000 in
theorem mv_X5_withPerson : MV yX5_withPerson cX5_withPerson 4 (some .int) 3 := ⟨uu (i := 1071) (by decide +kernel) rfl, uu (i := 34) (by decide +kernel) rfl, uu (i := 125) (by decide +kernel) rfl, uu (i := 1072) rfl rfl, ⟨by decide +kernel, by decide +kernel, by decide +kernel⟩, by decide⟩
abbrev mX6_init : MethodName × ByteArray × Nat × Option FieldType := (yX6_init, cX6_init, 1, none)
set_option maxRecDepth 100000 in
theorem mi_X6_init : MI yX6_init cX6_init 1 0 := ⟨uu (i := 234) (by decide +kernel) rfl, uu (i := 116) (by decide +kernel) rfl, uu (i := 235) rfl rfl, ⟨by decide +kernel, by decide +kernel, by decide +kernel⟩, by decide, rfl⟩
abbrev mX6_isOf : MethodName × ByteArray × Nat × Option FieldType := (yX6_isOf, cX6_isOf, 3, (some .boolean))
set_option maxRecDepth 100000 in
theorem mv_X6_isOf : MV yX6_isOf cX6_isOf 3 (some .boolean) 2 := ⟨uu (i := 980) (by decide +kernel) rfl, uu (i := 981) (by decide +kernel) rfl, uu (i := 116) (by decide +kernel) rfl, uu (i := 982) rfl rfl, ⟨by decide +kernel, by decide +kernel, by decide +kernel⟩, by decide⟩
abbrev mX6_yields : MethodName × ByteArray × Nat × Option FieldType := (yX6_yields, cX6_yields, 2, (some .int))
set_option maxRecDepth 100000 in
theorem mv_X6_yields : MV yX6_yields cX6_yields 2 (some .int) 1 := ⟨uu (i := 1002) (by decide +kernel) rfl, uu (i := 1003) (by decide +kernel) rfl, uu (i := 116) (by decide +kernel) rfl, uu (i := 1004) rfl rfl, ⟨by decide +kernel, by decide +kernel, by decide +kernel⟩, by decide⟩
abbrev mX7_failBefore : MethodName × ByteArray × Nat × Option FieldType := (yX7_failBefore, cX7_failBefore, 2, (some .boolean))
set_option maxRecDepth 100000 in
theorem mv_X7_failBefore : MV yX7_failBefore cX7_failBefore 2 (some .boolean) 1 := ⟨uu (i := 716) (by decide +kernel) rfl, uu (i := 8) (by decide +kernel) rfl, uu (i := 118) (by decide +kernel) rfl, uu (i := 717) rfl rfl, ⟨by decide +kernel, by decide +kernel, by decide +kernel⟩, by decide⟩
abbrev mX7_failHere : MethodName × ByteArray × Nat × Option FieldType := (yX7_failHere, cX7_failHere, 2, (some .boolean))
set_option maxRecDepth 100000 in
theorem mv_X7_failHere : MV yX7_failHere cX7_failHere 2 (some .boolean) 1 := ⟨uu (i := 725) (by decide +kernel) rfl, uu (i := 10) (by decide +kernel) rfl, uu (i := 118) (by decide +kernel) rfl, uu (i := 726) rfl rfl, ⟨by decide +kernel, by decide +kernel, by decide +kernel⟩, by decide⟩
abbrev mX7_findName : MethodName × ByteArray × Nat × Option FieldType := (yX7_findName, cX7_findName, 2, (some .int))
set_option maxRecDepth 100000 in
theorem mv_X7_findName : MV yX7_findName cX7_findName 2 (some .int) 0 := ⟨uu (i := 737) (by decide +kernel) rfl, uu (i := 13) (by decide +kernel) rfl, uu (i := 118) (by decide +kernel) rfl, uu (i := 738) rfl rfl, ⟨by decide +kernel, by decide +kernel, by decide +kernel⟩, by decide⟩
abbrev mX7_init : MethodName × ByteArray × Nat × Option FieldType := (yX7_init, cX7_init, 1, none)
set_option maxRecDepth 100000 in
theorem mi_X7_init : MI yX7_init cX7_init 1 0 := ⟨uu (i := 383) (by decide +kernel) rfl, uu (i := 118) (by decide +kernel) rfl, uu (i := 384) rfl rfl, ⟨by decide +kernel, by decide +kernel, by decide +kernel⟩, by decide, rfl⟩
abbrev mX7_isName : MethodName × ByteArray × Nat × Option FieldType := (yX7_isName, cX7_isName, 2, (some .boolean))
set_option maxRecDepth 100000 in
theorem mv_X7_isName : MV yX7_isName cX7_isName 2 (some .boolean) 1 := ⟨uu (i := 741) (by decide +kernel) rfl, uu (i := 14) (by decide +kernel) rfl, uu (i := 118) (by decide +kernel) rfl, uu (i := 742) rfl rfl, ⟨by decide +kernel, by decide +kernel, by decide +kernel⟩, by decide⟩
abbrev mX7_needKind : MethodName × ByteArray × Nat × Option FieldType := (yX7_needKind, cX7_needKind, 1, (some .boolean))
set_option maxRecDepth 100000 in
theorem mv_X7_needKind : MV yX7_needKind cX7_needKind 1 (some .boolean) 0 := ⟨uu (i := 753) (by decide +kernel) rfl, uu (i := 17) (by decide +kernel) rfl, uu (i := 118) (by decide +kernel) rfl, uu (i := 754) rfl rfl, ⟨by decide +kernel, by decide +kernel, by decide +kernel⟩, by decide⟩
abbrev mX7_needNewName : MethodName × ByteArray × Nat × Option FieldType := (yX7_needNewName, cX7_needNewName, 4, (some .boolean))
set_option maxRecDepth 100000 in
theorem mv_X7_needNewName : MV yX7_needNewName cX7_needNewName 4 (some .boolean) 2 := ⟨uu (i := 733) (by decide +kernel) rfl, uu (i := 12) (by decide +kernel) rfl, uu (i := 118) (by decide +kernel) rfl, uu (i := 734) rfl rfl, ⟨by decide +kernel, by decide +kernel, by decide +kernel⟩, by decide⟩
abbrev mX7_needRoom : MethodName × ByteArray × Nat × Option FieldType := (yX7_needRoom, cX7_needRoom, 3, (some .boolean))
set_option maxRecDepth 100000 in
theorem mv_X7_needRoom : MV yX7_needRoom cX7_needRoom 3 (some .boolean) 2 := ⟨uu (i := 783) (by decide +kernel) rfl, uu (i := 22) (by decide +kernel) rfl, uu (i := 118) (by decide +kernel) rfl, uu (i := 784) rfl rfl, ⟨by decide +kernel, by decide +kernel, by decide +kernel⟩, by decide⟩
abbrev mX7_needTold : MethodName × ByteArray × Nat × Option FieldType := (yX7_needTold, cX7_needTold, 3, (some .boolean))
set_option maxRecDepth 100000 in
theorem mv_X7_needTold : MV yX7_needTold cX7_needTold 3 (some .boolean) 1 := ⟨uu (i := 771) (by decide +kernel) rfl, uu (i := 20) (by decide +kernel) rfl, uu (i := 118) (by decide +kernel) rfl, uu (i := 772) rfl rfl, ⟨by decide +kernel, by decide +kernel, by decide +kernel⟩, by decide⟩
abbrev mX7_needWhole : MethodName × ByteArray × Nat × Option FieldType := (yX7_needWhole, cX7_needWhole, 4, (some .boolean))
set_option maxRecDepth 100000 in
theorem mv_X7_needWhole : MV yX7_needWhole cX7_needWhole 4 (some .boolean) 3 := ⟨uu (i := 721) (by decide +kernel) rfl, uu (i := 9) (by decide +kernel) rfl, uu (i := 118) (by decide +kernel) rfl, uu (i := 722) rfl rfl, ⟨by decide +kernel, by decide +kernel, by decide +kernel⟩, by decide⟩
abbrev mX7_needWord : MethodName × ByteArray × Nat × Option FieldType := (yX7_needWord, cX7_needWord, 2, (some .boolean))
set_option maxRecDepth 100000 in
theorem mv_X7_needWord : MV yX7_needWord cX7_needWord 2 (some .boolean) 1 := ⟨uu (i := 796) (by decide +kernel) rfl, uu (i := 24) (by decide +kernel) rfl, uu (i := 118) (by decide +kernel) rfl, uu (i := 797) rfl rfl, ⟨by decide +kernel, by decide +kernel, by decide +kernel⟩, by decide⟩
abbrev mX7_passComma : MethodName × ByteArray × Nat × Option FieldType := (yX7_passComma, cX7_passComma, 1, (some .boolean))
set_option maxRecDepth 100000 in
theorem mv_X7_passComma : MV yX7_passComma cX7_passComma 1 (some .boolean) 0 := ⟨uu (i := 745) (by decide +kernel) rfl, uu (i := 15) (by decide +kernel) rfl, uu (i := 118) (by decide +kernel) rfl, uu (i := 746) rfl rfl, ⟨by decide +kernel, by decide +kernel, by decide +kernel⟩, by decide⟩
abbrev mX7_passWord : MethodName × ByteArray × Nat × Option FieldType := (yX7_passWord, cX7_passWord, 2, (some .boolean))
set_option maxRecDepth 100000 in
theorem mv_X7_passWord : MV yX7_passWord cX7_passWord 2 (some .boolean) 1 := ⟨uu (i := 704) (by decide +kernel) rfl, uu (i := 6) (by decide +kernel) rfl, uu (i := 118) (by decide +kernel) rfl, uu (i := 705) rfl rfl, ⟨by decide +kernel, by decide +kernel, by decide +kernel⟩, by decide⟩
abbrev mX7_read : MethodName × ByteArray × Nat × Option FieldType := (yX7_read, cX7_read, 6, (some .boolean))
set_option maxRecDepth 100000 in
theorem mv_X7_read : MV yX7_read cX7_read 6 (some .boolean) 3 := ⟨uu (i := 665) (by decide +kernel) rfl, uu (i := 666) (by decide +kernel) rfl, uu (i := 118) (by decide +kernel) rfl, uu (i := 667) rfl rfl, ⟨by decide +kernel, by decide +kernel, by decide +kernel⟩, by decide⟩
abbrev mX7_readBreak : MethodName × ByteArray × Nat × Option FieldType := (yX7_readBreak, cX7_readBreak, 2, (some .boolean))
set_option maxRecDepth 100000 in
theorem mv_X7_readBreak : MV yX7_readBreak cX7_readBreak 2 (some .boolean) 0 := ⟨uu (i := 862) (by decide +kernel) rfl, uu (i := 28) (by decide +kernel) rfl, uu (i := 118) (by decide +kernel) rfl, uu (i := 863) rfl rfl, ⟨by decide +kernel, by decide +kernel, by decide +kernel⟩, by decide⟩
abbrev mX7_readEnd : MethodName × ByteArray × Nat × Option FieldType := (yX7_readEnd, cX7_readEnd, 1, (some .boolean))
set_option maxRecDepth 100000 in
theorem mv_X7_readEnd : MV yX7_readEnd cX7_readEnd 1 (some .boolean) 0 := ⟨uu (i := 874) (by decide +kernel) rfl, uu (i := 29) (by decide +kernel) rfl, uu (i := 118) (by decide +kernel) rfl, uu (i := 875) rfl rfl, ⟨by decide +kernel, by decide +kernel, by decide +kernel⟩, by decide⟩
abbrev mX7_readLent : MethodName × ByteArray × Nat × Option FieldType := (yX7_readLent, cX7_readLent, 4, (some .boolean))
set_option maxRecDepth 100000 in
theorem mv_X7_readLent : MV yX7_readLent cX7_readLent 4 (some .boolean) 0 := ⟨uu (i := 791) (by decide +kernel) rfl, uu (i := 23) (by decide +kernel) rfl, uu (i := 118) (by decide +kernel) rfl, uu (i := 792) rfl rfl, ⟨by decide +kernel, by decide +kernel, by decide +kernel⟩, by decide⟩
abbrev mX7_readLetter : MethodName × ByteArray × Nat × Option FieldType := (yX7_readLetter, cX7_readLetter, 3, (some .boolean))
set_option maxRecDepth 100000 in
theorem mv_X7_readLetter : MV yX7_readLetter cX7_readLetter 3 (some .boolean) 0 := ⟨uu (i := 858) (by decide +kernel) rfl, uu (i := 27) (by decide +kernel) rfl, uu (i := 118) (by decide +kernel) rfl, uu (i := 859) rfl rfl, ⟨by decide +kernel, by decide +kernel, by decide +kernel⟩, by decide⟩
abbrev mX7_readLine : MethodName × ByteArray × Nat × Option FieldType := (yX7_readLine, cX7_readLine, 1, (some .boolean))
set_option maxRecDepth 100000 in
theorem mv_X7_readLine : MV yX7_readLine cX7_readLine 1 (some .boolean) 0 := ⟨uu (i := 700) (by decide +kernel) rfl, uu (i := 5) (by decide +kernel) rfl, uu (i := 118) (by decide +kernel) rfl, uu (i := 701) rfl rfl, ⟨by decide +kernel, by decide +kernel, by decide +kernel⟩, by decide⟩
abbrev mX7_readMask : MethodName × ByteArray × Nat × Option FieldType := (yX7_readMask, cX7_readMask, 2, (some .boolean))
set_option maxRecDepth 100000 in
theorem mv_X7_readMask : MV yX7_readMask cX7_readMask 2 (some .boolean) 0 := ⟨uu (i := 749) (by decide +kernel) rfl, uu (i := 16) (by decide +kernel) rfl, uu (i := 118) (by decide +kernel) rfl, uu (i := 750) rfl rfl, ⟨by decide +kernel, by decide +kernel, by decide +kernel⟩, by decide⟩
abbrev mX7_readPerson : MethodName × ByteArray × Nat × Option FieldType := (yX7_readPerson, cX7_readPerson, 2, (some .boolean))
set_option maxRecDepth 100000 in
theorem mv_X7_readPerson : MV yX7_readPerson cX7_readPerson 2 (some .boolean) 0 := ⟨uu (i := 762) (by decide +kernel) rfl, uu (i := 18) (by decide +kernel) rfl, uu (i := 118) (by decide +kernel) rfl, uu (i := 763) rfl rfl, ⟨by decide +kernel, by decide +kernel, by decide +kernel⟩, by decide⟩
abbrev mX7_readPersonsWorks : MethodName × ByteArray × Nat × Option FieldType := (yX7_readPersonsWorks, cX7_readPersonsWorks, 3, (some .boolean))
set_option maxRecDepth 100000 in
theorem mv_X7_readPersonsWorks : MV yX7_readPersonsWorks cX7_readPersonsWorks 3 (some .boolean) 1 := ⟨uu (i := 767) (by decide +kernel) rfl, uu (i := 19) (by decide +kernel) rfl, uu (i := 118) (by decide +kernel) rfl, uu (i := 768) rfl rfl, ⟨by decide +kernel, by decide +kernel, by decide +kernel⟩, by decide⟩
abbrev mX7_readPromise : MethodName × ByteArray × Nat × Option FieldType := (yX7_readPromise, cX7_readPromise, 2, (some .boolean))
set_option maxRecDepth 100000 in
theorem mv_X7_readPromise : MV yX7_readPromise cX7_readPromise 2 (some .boolean) 0 := ⟨uu (i := 779) (by decide +kernel) rfl, uu (i := 21) (by decide +kernel) rfl, uu (i := 118) (by decide +kernel) rfl, uu (i := 780) rfl rfl, ⟨by decide +kernel, by decide +kernel, by decide +kernel⟩, by decide⟩
abbrev mX7_readSeen : MethodName × ByteArray × Nat × Option FieldType := (yX7_readSeen, cX7_readSeen, 2, (some .boolean))
set_option maxRecDepth 100000 in
theorem mv_X7_readSeen : MV yX7_readSeen cX7_readSeen 2 (some .boolean) 0 := ⟨uu (i := 853) (by decide +kernel) rfl, uu (i := 26) (by decide +kernel) rfl, uu (i := 118) (by decide +kernel) rfl, uu (i := 854) rfl rfl, ⟨by decide +kernel, by decide +kernel, by decide +kernel⟩, by decide⟩
abbrev mX7_readTown : MethodName × ByteArray × Nat × Option FieldType := (yX7_readTown, cX7_readTown, 1, (some .boolean))
set_option maxRecDepth 100000 in
theorem mv_X7_readTown : MV yX7_readTown cX7_readTown 1 (some .boolean) 0 := ⟨uu (i := 712) (by decide +kernel) rfl, uu (i := 7) (by decide +kernel) rfl, uu (i := 118) (by decide +kernel) rfl, uu (i := 713) rfl rfl, ⟨by decide +kernel, by decide +kernel, by decide +kernel⟩, by decide⟩
abbrev mX7_readWorks : MethodName × ByteArray × Nat × Option FieldType := (yX7_readWorks, cX7_readWorks, 2, (some .boolean))
set_option maxRecDepth 100000 in
theorem mv_X7_readWorks : MV yX7_readWorks cX7_readWorks 2 (some .boolean) 0 := ⟨uu (i := 729) (by decide +kernel) rfl, uu (i := 11) (by decide +kernel) rfl, uu (i := 118) (by decide +kernel) rfl, uu (i := 730) rfl rfl, ⟨by decide +kernel, by decide +kernel, by decide +kernel⟩, by decide⟩
abbrev mX7_reserve : MethodName × ByteArray × Nat × Option FieldType := (yX7_reserve, cX7_reserve, 2, none)
set_option maxRecDepth 100000 in
theorem mv_X7_reserve : MV yX7_reserve cX7_reserve 2 none 1 := ⟨uu (i := 425) (by decide +kernel) rfl, uu (i := 0) (by decide +kernel) rfl, uu (i := 118) (by decide +kernel) rfl, uu (i := 426) rfl rfl, ⟨by decide +kernel, by decide +kernel, by decide +kernel⟩, by decide⟩
abbrev mX8_clashesWith : MethodName × ByteArray × Nat × Option FieldType := (yX8_clashesWith, cX8_clashesWith, 2, (some .boolean))
set_option maxRecDepth 100000 in
theorem mv_X8_clashesWith : MV yX8_clashesWith cX8_clashesWith 2 (some .boolean) 1 := ⟨uu (i := 1177) (by decide +kernel) rfl, uu (i := 1178) (by decide +kernel) rfl, uu (i := 117) (by decide +kernel) rfl, uu (i := 1179) rfl rfl, ⟨by decide +kernel, by decide +kernel, by decide +kernel⟩, by decide⟩
abbrev mX8_init : MethodName × ByteArray × Nat × Option FieldType := (yX8_init, cX8_init, 1, none)
set_option maxRecDepth 100000 in
theorem mi_X8_init : MI yX8_init cX8_init 1 0 := ⟨uu (i := 268) (by decide +kernel) rfl, uu (i := 117) (by decide +kernel) rfl, uu (i := 269) rfl rfl, ⟨by decide +kernel, by decide +kernel, by decide +kernel⟩, by decide, rfl⟩
abbrev mX8_resembles : MethodName × ByteArray × Nat × Option FieldType := (yX8_resembles, cX8_resembles, 2, (some .boolean))
set_option maxRecDepth 100000 in
theorem mv_X8_resembles : MV yX8_resembles cX8_resembles 2 (some .boolean) 1 := ⟨uu (i := 1158) (by decide +kernel) rfl, uu (i := 1159) (by decide +kernel) rfl, uu (i := 117) (by decide +kernel) rfl, uu (i := 1160) rfl rfl, ⟨by decide +kernel, by decide +kernel, by decide +kernel⟩, by decide⟩
abbrev mX9_advance : MethodName × ByteArray × Nat × Option FieldType := (yX9_advance, cX9_advance, 2, none)
set_option maxRecDepth 100000 in
theorem mv_X9_advance : MV yX9_advance cX9_advance 2 none 0 := ⟨uu (i := 687) (by decide +kernel) rfl, uu (i := 688) (by decide +kernel) rfl, uu (i := 119) (by decide +kernel) rfl, uu (i := 689) rfl rfl, ⟨by decide +kernel, by decide +kernel, by decide +kernel⟩, by decide⟩
abbrev mX9_init : MethodName × ByteArray × Nat × Option FieldType := (yX9_init, cX9_init, 1, none)
set_option maxRecDepth 100000 in
theorem mi_X9_init : MI yX9_init cX9_init 1 0 := ⟨uu (i := 389) (by decide +kernel) rfl, uu (i := 119) (by decide +kernel) rfl, uu (i := 390) rfl rfl, ⟨by decide +kernel, by decide +kernel, by decide +kernel⟩, by decide, rfl⟩
abbrev mX9_isWord : MethodName × ByteArray × Nat × Option FieldType := (yX9_isWord, cX9_isWord, 3, (some .boolean))
set_option maxRecDepth 100000 in
theorem mv_X9_isWord : MV yX9_isWord cX9_isWord 3 (some .boolean) 1 := ⟨uu (i := 707) (by decide +kernel) rfl, uu (i := 708) (by decide +kernel) rfl, uu (i := 119) (by decide +kernel) rfl, uu (i := 709) rfl rfl, ⟨by decide +kernel, by decide +kernel, by decide +kernel⟩, by decide⟩
abbrev mX9_lettersOf : MethodName × ByteArray × Nat × Option FieldType := (yX9_lettersOf, cX9_lettersOf, 4, (some .long))
set_option maxRecDepth 100000 in
theorem ms_X9_lettersOf : MS yX9_lettersOf cX9_lettersOf 4 (some .long) 1 := ⟨uu (i := 428) (by decide +kernel) rfl, uu (i := 119) (by decide +kernel) rfl, uu (i := 429) rfl rfl, ⟨by decide +kernel, by decide +kernel, by decide +kernel⟩, by decide⟩
abbrev mX9_open : MethodName × ByteArray × Nat × Option FieldType := (yX9_open, cX9_open, 3, none)
set_option maxRecDepth 100000 in
theorem mv_X9_open : MV yX9_open cX9_open 3 none 2 := ⟨uu (i := 680) (by decide +kernel) rfl, uu (i := 681) (by decide +kernel) rfl, uu (i := 119) (by decide +kernel) rfl, uu (i := 682) rfl rfl, ⟨by decide +kernel, by decide +kernel, by decide +kernel⟩, by decide⟩
abbrev mX9_readWhole : MethodName × ByteArray × Nat × Option FieldType := (yX9_readWhole, cX9_readWhole, 1, none)
set_option maxRecDepth 100000 in
theorem mv_X9_readWhole : MV yX9_readWhole cX9_readWhole 1 none 0 := ⟨uu (i := 696) (by decide +kernel) rfl, uu (i := 4) (by decide +kernel) rfl, uu (i := 119) (by decide +kernel) rfl, uu (i := 697) rfl rfl, ⟨by decide +kernel, by decide +kernel, by decide +kernel⟩, by decide⟩
abbrev mX9_readWord : MethodName × ByteArray × Nat × Option FieldType := (yX9_readWord, cX9_readWord, 1, none)
set_option maxRecDepth 100000 in
theorem mv_X9_readWord : MV yX9_readWord cX9_readWord 1 none 0 := ⟨uu (i := 692) (by decide +kernel) rfl, uu (i := 3) (by decide +kernel) rfl, uu (i := 119) (by decide +kernel) rfl, uu (i := 693) rfl rfl, ⟨by decide +kernel, by decide +kernel, by decide +kernel⟩, by decide⟩
