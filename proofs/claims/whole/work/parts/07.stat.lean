theorem gt {i : Nat} {w : Cond} (h : tables_1[i]? = some w) (hg : goodWord w = true) : w ∈ gtbl := List.mem_filter.mpr ⟨List.mem_append_right _ (List.mem_of_getElem? h), hg⟩
theorem gtp {i : Nat} {w : Cond} (h : (k2_sels lw_privs)[i]? = some w) (hg : goodWord w = true) : w ∈ gtbl := List.mem_filter.mpr ⟨List.mem_append_left _ (List.mem_of_getElem? h), hg⟩
theorem gta {ws : List Cond} (ps : List Nat) (h : ws.map some = ps.map (fun i => tables_1[i]?)) (hg : ws.all goodWord = true) : ∀ w ∈ ws, w ∈ gtbl := by
  intro w hw
  have h1 : some w ∈ ws.map some := List.mem_map.mpr ⟨w, hw, rfl⟩
  rw [h] at h1
  obtain ⟨i, -, hi⟩ := List.mem_map.mp h1
  exact gt hi (List.all_eq_true.mp hg w hw)
theorem cfJx4a65c : CF 0 RJx4a65c TJx4a65c 3 tyJx4a65c := ⟨rfl, gta [52, 48, 50] (by decide +kernel) (by decide +kernel), tyJx4a65c_ok, nmJx4a65c⟩
theorem cfX0 : CF 1 RX0 TX0 3 tyX0 := ⟨rfl, gta [331, 333, 335] (by decide +kernel) (by decide +kernel), tyX0_ok, nmX0⟩
theorem cfX1 : CF 2 RX1 TX1 2 tyX1 := ⟨rfl, gta [551, 553] (by decide +kernel) (by decide +kernel), tyX1_ok, nmX1⟩
theorem cfX2 : CF 3 RX2 TX2 3 tyX2 := ⟨rfl, gta [386, 388, 390] (by decide +kernel) (by decide +kernel), tyX2_ok, nmX2⟩
theorem cfX3 : CF 4 RX3 TX3 3 tyX3 := ⟨rfl, gta [410, 412, 414] (by decide +kernel) (by decide +kernel), tyX3_ok, nmX3⟩
theorem cfX4 : CF 5 RX4 TX4 10 tyX4 := ⟨rfl, gta [75, 77, 79, 81, 83, 85, 87, 89, 91, 93] (by decide +kernel) (by decide +kernel), tyX4_ok, nmX4⟩
theorem cfX5 : CF 6 RX5 TX5 8 tyX5 := ⟨rfl, gta [187, 189, 191, 193, 195, 197, 199, 201] (by decide +kernel) (by decide +kernel), tyX5_ok, nmX5⟩
theorem cfX6 : CF 7 RX6 TX6 7 tyX6 := ⟨rfl, gta [587, 589, 591, 593, 595, 597, 599] (by decide +kernel) (by decide +kernel), tyX6_ok, nmX6⟩
theorem cfX7 : CF 8 RX7 TX7 7 tyX7 := ⟨rfl, gta [302, 304, 306, 308, 310, 312, 314] (by decide +kernel) (by decide +kernel), tyX7_ok, nmX7⟩
theorem cfX8 : CF 9 RX8 TX8 6 tyX8 := ⟨rfl, gta [359, 361, 363, 365, 367, 369] (by decide +kernel) (by decide +kernel), tyX8_ok, nmX8⟩
theorem cfX9 : CF 10 RX9 TX9 14 tyX9 := ⟨rfl, gta [118, 120, 122, 124, 126, 128, 130, 132, 134, 136, 138, 140, 142, 144] (by decide +kernel) (by decide +kernel), tyX9_ok, nmX9⟩
theorem cfX10 : CF 11 RX10 TX10 59 tyX10 := ⟨rfl, gta [740, 742, 744, 746, 748, 750, 752, 754, 756, 758, 760, 762, 764, 766, 768, 770, 772, 774, 776, 778, 780, 782, 784, 786, 788, 790, 792, 794, 796, 798, 800, 802, 804, 806, 808, 810, 812, 814, 816, 818, 820, 822, 824, 826, 828, 830, 832, 834, 836, 838, 840, 842, 844, 846, 848, 850, 852, 854, 856] (by decide +kernel) (by decide +kernel), tyX10_ok, nmX10⟩
theorem fJx4a65c_9 : Cond.fieldLink RJx4a65c 9 (TJx4a65c 1).1 (TJx4a65c 1).2.1 (TJx4a65c 1).2.2.1 ∈ gtbl := gt (i := 43) (by decide +kernel) rfl
theorem fJx4a65c_48 : Cond.fieldLink RJx4a65c 48 (TJx4a65c 2).1 (TJx4a65c 2).2.1 (TJx4a65c 2).2.2.1 ∈ gtbl := gt (i := 44) (by decide +kernel) rfl
theorem fJxc12de_7 : Cond.fieldLink RJxc12de 7 (TJx4a65c 0).1 (TJx4a65c 0).2.1 (TJx4a65c 0).2.2.1 ∈ gtbl := gt (i := 45) (by decide +kernel) rfl
theorem fJx4a65c_63 : Cond.fieldLink RJx4a65c 63 "java/util/ArrayList" (TJx4a65c 0).2.1 (TJx4a65c 0).2.2.1 ∈ gtbl := gt (i := 46) (by decide +kernel) rfl
theorem fX4_12 : Cond.fieldLink RX4 12 (TX4 0).1 (TX4 0).2.1 (TX4 0).2.2.1 ∈ gtbl := gt (i := 63) (by decide +kernel) rfl
theorem fX9_196 : Cond.fieldLink RX9 196 (TX4 0).1 (TX4 0).2.1 (TX4 0).2.2.1 ∈ gtbl := gt (i := 64) (by decide +kernel) rfl
theorem fX4_18 : Cond.fieldLink RX4 18 (TX4 1).1 (TX4 1).2.1 (TX4 1).2.2.1 ∈ gtbl := gt (i := 65) (by decide +kernel) rfl
theorem fX4_21 : Cond.fieldLink RX4 21 (TX4 2).1 (TX4 2).2.1 (TX4 2).2.2.1 ∈ gtbl := gt (i := 66) (by decide +kernel) rfl
theorem fX4_56 : Cond.fieldLink RX4 56 (TX4 3).1 (TX4 3).2.1 (TX4 3).2.2.1 ∈ gtbl := gt (i := 67) (by decide +kernel) rfl
theorem fX9_199 : Cond.fieldLink RX9 199 (TX4 3).1 (TX4 3).2.1 (TX4 3).2.2.1 ∈ gtbl := gt (i := 68) (by decide +kernel) rfl
theorem fX4_59 : Cond.fieldLink RX4 59 (TX4 4).1 (TX4 4).2.1 (TX4 4).2.2.1 ∈ gtbl := gt (i := 69) (by decide +kernel) rfl
theorem fX4_46 : Cond.fieldLink RX4 46 (TX4 5).1 (TX4 5).2.1 (TX4 5).2.2.1 ∈ gtbl := gt (i := 70) (by decide +kernel) rfl
theorem fX4_50 : Cond.fieldLink RX4 50 (TX4 6).1 (TX4 6).2.1 (TX4 6).2.2.1 ∈ gtbl := gt (i := 71) (by decide +kernel) rfl
theorem fX4_53 : Cond.fieldLink RX4 53 (TX4 7).1 (TX4 7).2.1 (TX4 7).2.2.1 ∈ gtbl := gt (i := 72) (by decide +kernel) rfl
theorem fX4_76 : Cond.fieldLink RX4 76 (TX4 8).1 (TX4 8).2.1 (TX4 8).2.2.1 ∈ gtbl := gt (i := 73) (by decide +kernel) rfl
theorem fX4_79 : Cond.fieldLink RX4 79 (TX4 9).1 (TX4 9).2.1 (TX4 9).2.2.1 ∈ gtbl := gt (i := 74) (by decide +kernel) rfl
theorem fX9_55 : Cond.fieldLink RX9 55 (TX9 0).1 (TX9 0).2.1 (TX9 0).2.2.1 ∈ gtbl := gt (i := 104) (by decide +kernel) rfl
theorem fX9_10 : Cond.fieldLink RX9 10 (TX9 1).1 (TX9 1).2.1 (TX9 1).2.2.1 ∈ gtbl := gt (i := 105) (by decide +kernel) rfl
theorem fX9_16 : Cond.fieldLink RX9 16 (TX9 2).1 (TX9 2).2.1 (TX9 2).2.2.1 ∈ gtbl := gt (i := 106) (by decide +kernel) rfl
theorem fX9_19 : Cond.fieldLink RX9 19 (TX9 3).1 (TX9 3).2.1 (TX9 3).2.2.1 ∈ gtbl := gt (i := 107) (by decide +kernel) rfl
theorem fX9_22 : Cond.fieldLink RX9 22 (TX9 4).1 (TX9 4).2.1 (TX9 4).2.2.1 ∈ gtbl := gt (i := 108) (by decide +kernel) rfl
theorem fX9_25 : Cond.fieldLink RX9 25 (TX9 5).1 (TX9 5).2.1 (TX9 5).2.2.1 ∈ gtbl := gt (i := 109) (by decide +kernel) rfl
theorem fX9_28 : Cond.fieldLink RX9 28 (TX9 6).1 (TX9 6).2.1 (TX9 6).2.2.1 ∈ gtbl := gt (i := 110) (by decide +kernel) rfl
theorem fX9_31 : Cond.fieldLink RX9 31 (TX9 7).1 (TX9 7).2.1 (TX9 7).2.2.1 ∈ gtbl := gt (i := 111) (by decide +kernel) rfl
theorem fX9_35 : Cond.fieldLink RX9 35 (TX9 8).1 (TX9 8).2.1 (TX9 8).2.2.1 ∈ gtbl := gt (i := 112) (by decide +kernel) rfl
theorem fX9_42 : Cond.fieldLink RX9 42 (TX9 9).1 (TX9 9).2.1 (TX9 9).2.2.1 ∈ gtbl := gt (i := 113) (by decide +kernel) rfl
theorem fX9_123 : Cond.fieldLink RX9 123 (TX9 10).1 (TX9 10).2.1 (TX9 10).2.2.1 ∈ gtbl := gt (i := 114) (by decide +kernel) rfl
theorem fX9_163 : Cond.fieldLink RX9 163 (TX9 11).1 (TX9 11).2.1 (TX9 11).2.2.1 ∈ gtbl := gt (i := 115) (by decide +kernel) rfl
theorem fX9_172 : Cond.fieldLink RX9 172 (TX9 12).1 (TX9 12).2.1 (TX9 12).2.2.1 ∈ gtbl := gt (i := 116) (by decide +kernel) rfl
theorem fX9_175 : Cond.fieldLink RX9 175 (TX9 13).1 (TX9 13).2.1 (TX9 13).2.2.1 ∈ gtbl := gt (i := 117) (by decide +kernel) rfl
theorem fX5_15 : Cond.fieldLink RX5 15 (TX5 0).1 (TX5 0).2.1 (TX5 0).2.2.1 ∈ gtbl := gt (i := 169) (by decide +kernel) rfl
theorem fX2_13 : Cond.fieldLink RX2 13 (TX5 1).1 (TX5 1).2.1 (TX5 1).2.2.1 ∈ gtbl := gt (i := 170) (by decide +kernel) rfl
theorem fX5_18 : Cond.fieldLink RX5 18 (TX5 1).1 (TX5 1).2.1 (TX5 1).2.2.1 ∈ gtbl := gt (i := 171) (by decide +kernel) rfl
theorem fX5_21 : Cond.fieldLink RX5 21 (TX5 2).1 (TX5 2).2.1 (TX5 2).2.2.1 ∈ gtbl := gt (i := 172) (by decide +kernel) rfl
theorem fX3_20 : Cond.fieldLink RX3 20 (TX5 2).1 (TX5 2).2.1 (TX5 2).2.2.1 ∈ gtbl := gt (i := 173) (by decide +kernel) rfl
theorem fX5_25 : Cond.fieldLink RX5 25 (TX5 3).1 (TX5 3).2.1 (TX5 3).2.2.1 ∈ gtbl := gt (i := 174) (by decide +kernel) rfl
theorem fX2_26 : Cond.fieldLink RX2 26 (TX5 3).1 (TX5 3).2.1 (TX5 3).2.2.1 ∈ gtbl := gt (i := 175) (by decide +kernel) rfl
theorem fX3_26 : Cond.fieldLink RX3 26 (TX5 3).1 (TX5 3).2.1 (TX5 3).2.2.1 ∈ gtbl := gt (i := 176) (by decide +kernel) rfl
theorem fX0_24 : Cond.fieldLink RX0 24 (TX5 3).1 (TX5 3).2.1 (TX5 3).2.2.1 ∈ gtbl := gt (i := 177) (by decide +kernel) rfl
theorem fX9_132 : Cond.fieldLink RX9 132 (TX5 3).1 (TX5 3).2.1 (TX5 3).2.2.1 ∈ gtbl := gt (i := 178) (by decide +kernel) rfl
theorem fX7_28 : Cond.fieldLink RX7 28 (TX5 4).1 (TX5 4).2.1 (TX5 4).2.2.1 ∈ gtbl := gt (i := 179) (by decide +kernel) rfl
theorem fX5_32 : Cond.fieldLink RX5 32 (TX5 4).1 (TX5 4).2.1 (TX5 4).2.2.1 ∈ gtbl := gt (i := 180) (by decide +kernel) rfl
theorem fX5_44 : Cond.fieldLink RX5 44 (TX5 5).1 (TX5 5).2.1 (TX5 5).2.2.1 ∈ gtbl := gt (i := 181) (by decide +kernel) rfl
theorem fX9_140 : Cond.fieldLink RX9 140 (TX5 5).1 (TX5 5).2.1 (TX5 5).2.2.1 ∈ gtbl := gt (i := 182) (by decide +kernel) rfl
theorem fX2_38 : Cond.fieldLink RX2 38 (TX5 6).1 (TX5 6).2.1 (TX5 6).2.2.1 ∈ gtbl := gt (i := 183) (by decide +kernel) rfl
theorem fX9_143 : Cond.fieldLink RX9 143 (TX5 6).1 (TX5 6).2.1 (TX5 6).2.2.1 ∈ gtbl := gt (i := 184) (by decide +kernel) rfl
theorem fX5_9 : Cond.fieldLink RX5 9 (TX5 7).1 (TX5 7).2.1 (TX5 7).2.2.1 ∈ gtbl := gt (i := 185) (by decide +kernel) rfl
theorem fX9_120 : Cond.fieldLink RX9 120 (TX5 7).1 (TX5 7).2.1 (TX5 7).2.2.1 ∈ gtbl := gt (i := 186) (by decide +kernel) rfl
theorem fX7_7 : Cond.fieldLink RX7 7 (TX7 0).1 (TX7 0).2.1 (TX7 0).2.2.1 ∈ gtbl := gt (i := 292) (by decide +kernel) rfl
theorem fX7_13 : Cond.fieldLink RX7 13 (TX7 1).1 (TX7 1).2.1 (TX7 1).2.2.1 ∈ gtbl := gt (i := 293) (by decide +kernel) rfl
theorem fX7_16 : Cond.fieldLink RX7 16 (TX7 2).1 (TX7 2).2.1 (TX7 2).2.2.1 ∈ gtbl := gt (i := 294) (by decide +kernel) rfl
theorem fX7_22 : Cond.fieldLink RX7 22 (TX7 3).1 (TX7 3).2.1 (TX7 3).2.2.1 ∈ gtbl := gt (i := 295) (by decide +kernel) rfl
theorem fX7_25 : Cond.fieldLink RX7 25 (TX7 4).1 (TX7 4).2.1 (TX7 4).2.2.1 ∈ gtbl := gt (i := 296) (by decide +kernel) rfl
theorem fX9_154 : Cond.fieldLink RX9 154 (TX7 4).1 (TX7 4).2.1 (TX7 4).2.2.1 ∈ gtbl := gt (i := 297) (by decide +kernel) rfl
theorem fX7_37 : Cond.fieldLink RX7 37 (TX7 5).1 (TX7 5).2.1 (TX7 5).2.2.1 ∈ gtbl := gt (i := 298) (by decide +kernel) rfl
theorem fX9_148 : Cond.fieldLink RX9 148 (TX7 5).1 (TX7 5).2.1 (TX7 5).2.2.1 ∈ gtbl := gt (i := 299) (by decide +kernel) rfl
theorem fX7_40 : Cond.fieldLink RX7 40 (TX7 6).1 (TX7 6).2.1 (TX7 6).2.2.1 ∈ gtbl := gt (i := 300) (by decide +kernel) rfl
theorem fX9_151 : Cond.fieldLink RX9 151 (TX7 6).1 (TX7 6).2.1 (TX7 6).2.2.1 ∈ gtbl := gt (i := 301) (by decide +kernel) rfl
theorem fX0_9 : Cond.fieldLink RX0 9 (TX0 0).1 (TX0 0).2.1 (TX0 0).2.2.1 ∈ gtbl := gt (i := 328) (by decide +kernel) rfl
theorem fX0_15 : Cond.fieldLink RX0 15 (TX0 1).1 (TX0 1).2.1 (TX0 1).2.2.1 ∈ gtbl := gt (i := 329) (by decide +kernel) rfl
theorem fX0_19 : Cond.fieldLink RX0 19 (TX0 2).1 (TX0 2).2.1 (TX0 2).2.2.1 ∈ gtbl := gt (i := 330) (by decide +kernel) rfl
theorem fX8_7 : Cond.fieldLink RX8 7 (TX8 0).1 (TX8 0).2.1 (TX8 0).2.2.1 ∈ gtbl := gt (i := 352) (by decide +kernel) rfl
theorem fX8_13 : Cond.fieldLink RX8 13 (TX8 1).1 (TX8 1).2.1 (TX8 1).2.2.1 ∈ gtbl := gt (i := 353) (by decide +kernel) rfl
theorem fX8_16 : Cond.fieldLink RX8 16 (TX8 2).1 (TX8 2).2.1 (TX8 2).2.2.1 ∈ gtbl := gt (i := 354) (by decide +kernel) rfl
theorem fX8_20 : Cond.fieldLink RX8 20 (TX8 3).1 (TX8 3).2.1 (TX8 3).2.2.1 ∈ gtbl := gt (i := 355) (by decide +kernel) rfl
theorem fX8_23 : Cond.fieldLink RX8 23 (TX8 4).1 (TX8 4).2.1 (TX8 4).2.2.1 ∈ gtbl := gt (i := 356) (by decide +kernel) rfl
theorem fX8_32 : Cond.fieldLink RX8 32 (TX8 5).1 (TX8 5).2.1 (TX8 5).2.2.1 ∈ gtbl := gt (i := 357) (by decide +kernel) rfl
theorem fX9_159 : Cond.fieldLink RX9 159 (TX8 5).1 (TX8 5).2.1 (TX8 5).2.2.1 ∈ gtbl := gt (i := 358) (by decide +kernel) rfl
theorem fX2_7 : Cond.fieldLink RX2 7 (TX2 0).1 (TX2 0).2.1 (TX2 0).2.2.1 ∈ gtbl := gt (i := 383) (by decide +kernel) rfl
theorem fX2_19 : Cond.fieldLink RX2 19 (TX2 1).1 (TX2 1).2.1 (TX2 1).2.2.1 ∈ gtbl := gt (i := 384) (by decide +kernel) rfl
theorem fX2_23 : Cond.fieldLink RX2 23 (TX2 2).1 (TX2 2).2.1 (TX2 2).2.2.1 ∈ gtbl := gt (i := 385) (by decide +kernel) rfl
theorem fX3_7 : Cond.fieldLink RX3 7 (TX3 0).1 (TX3 0).2.1 (TX3 0).2.2.1 ∈ gtbl := gt (i := 406) (by decide +kernel) rfl
theorem fX9_231 : Cond.fieldLink RX9 231 (TX3 0).1 (TX3 0).2.1 (TX3 0).2.2.1 ∈ gtbl := gt (i := 407) (by decide +kernel) rfl
theorem fX3_13 : Cond.fieldLink RX3 13 (TX3 1).1 (TX3 1).2.1 (TX3 1).2.2.1 ∈ gtbl := gt (i := 408) (by decide +kernel) rfl
theorem fX3_17 : Cond.fieldLink RX3 17 (TX3 2).1 (TX3 2).2.1 (TX3 2).2.2.1 ∈ gtbl := gt (i := 409) (by decide +kernel) rfl
theorem fX1_7 : Cond.fieldLink RX1 7 (TX1 0).1 (TX1 0).2.1 (TX1 0).2.2.1 ∈ gtbl := gt (i := 547) (by decide +kernel) rfl
theorem fX4_35 : Cond.fieldLink RX4 35 (TX1 0).1 (TX1 0).2.1 (TX1 0).2.2.1 ∈ gtbl := gt (i := 548) (by decide +kernel) rfl
theorem fX1_13 : Cond.fieldLink RX1 13 (TX1 1).1 (TX1 1).2.1 (TX1 1).2.2.1 ∈ gtbl := gt (i := 549) (by decide +kernel) rfl
theorem fX4_140 : Cond.fieldLink RX4 140 (TX1 1).1 (TX1 1).2.1 (TX1 1).2.2.1 ∈ gtbl := gt (i := 550) (by decide +kernel) rfl
theorem fX6_9 : Cond.fieldLink RX6 9 (TX6 0).1 (TX6 0).2.1 (TX6 0).2.2.1 ∈ gtbl := gt (i := 579) (by decide +kernel) rfl
theorem fX4_91 : Cond.fieldLink RX4 91 (TX6 0).1 (TX6 0).2.1 (TX6 0).2.2.1 ∈ gtbl := gt (i := 580) (by decide +kernel) rfl
theorem fX4_67 : Cond.fieldLink RX4 67 (TX6 1).1 (TX6 1).2.1 (TX6 1).2.2.1 ∈ gtbl := gt (i := 581) (by decide +kernel) rfl
theorem fX4_68 : Cond.fieldLink RX4 68 (TX6 2).1 (TX6 2).2.1 (TX6 2).2.2.1 ∈ gtbl := gt (i := 582) (by decide +kernel) rfl
theorem fX4_71 : Cond.fieldLink RX4 71 (TX6 3).1 (TX6 3).2.1 (TX6 3).2.2.1 ∈ gtbl := gt (i := 583) (by decide +kernel) rfl
theorem fX4_104 : Cond.fieldLink RX4 104 (TX6 4).1 (TX6 4).2.1 (TX6 4).2.2.1 ∈ gtbl := gt (i := 584) (by decide +kernel) rfl
theorem fX4_107 : Cond.fieldLink RX4 107 (TX6 5).1 (TX6 5).2.1 (TX6 5).2.2.1 ∈ gtbl := gt (i := 585) (by decide +kernel) rfl
theorem fX4_110 : Cond.fieldLink RX4 110 (TX6 6).1 (TX6 6).2.1 (TX6 6).2.2.1 ∈ gtbl := gt (i := 586) (by decide +kernel) rfl
theorem fX10_138 : Cond.fieldLink RX10 138 (TX10 0).1 (TX10 0).2.1 (TX10 0).2.2.1 ∈ gtbl := gt (i := 681) (by decide +kernel) rfl
theorem fX10_142 : Cond.fieldLink RX10 142 (TX10 1).1 (TX10 1).2.1 (TX10 1).2.2.1 ∈ gtbl := gt (i := 682) (by decide +kernel) rfl
theorem fX10_7 : Cond.fieldLink RX10 7 (TX10 2).1 (TX10 2).2.1 (TX10 2).2.2.1 ∈ gtbl := gt (i := 683) (by decide +kernel) rfl
theorem fX10_13 : Cond.fieldLink RX10 13 (TX10 3).1 (TX10 3).2.1 (TX10 3).2.2.1 ∈ gtbl := gt (i := 684) (by decide +kernel) rfl
theorem fX10_16 : Cond.fieldLink RX10 16 (TX10 4).1 (TX10 4).2.1 (TX10 4).2.2.1 ∈ gtbl := gt (i := 685) (by decide +kernel) rfl
theorem fX10_19 : Cond.fieldLink RX10 19 (TX10 5).1 (TX10 5).2.1 (TX10 5).2.2.1 ∈ gtbl := gt (i := 686) (by decide +kernel) rfl
theorem fX10_22 : Cond.fieldLink RX10 22 (TX10 6).1 (TX10 6).2.1 (TX10 6).2.2.1 ∈ gtbl := gt (i := 687) (by decide +kernel) rfl
theorem fX10_26 : Cond.fieldLink RX10 26 (TX10 7).1 (TX10 7).2.1 (TX10 7).2.2.1 ∈ gtbl := gt (i := 688) (by decide +kernel) rfl
theorem fX10_29 : Cond.fieldLink RX10 29 (TX10 8).1 (TX10 8).2.1 (TX10 8).2.2.1 ∈ gtbl := gt (i := 689) (by decide +kernel) rfl
theorem fX10_32 : Cond.fieldLink RX10 32 (TX10 9).1 (TX10 9).2.1 (TX10 9).2.2.1 ∈ gtbl := gt (i := 690) (by decide +kernel) rfl
theorem fX10_151 : Cond.fieldLink RX10 151 (TX10 10).1 (TX10 10).2.1 (TX10 10).2.2.1 ∈ gtbl := gt (i := 691) (by decide +kernel) rfl
theorem fX10_35 : Cond.fieldLink RX10 35 (TX10 11).1 (TX10 11).2.1 (TX10 11).2.2.1 ∈ gtbl := gt (i := 692) (by decide +kernel) rfl
theorem fX10_38 : Cond.fieldLink RX10 38 (TX10 12).1 (TX10 12).2.1 (TX10 12).2.2.1 ∈ gtbl := gt (i := 693) (by decide +kernel) rfl
theorem fX10_41 : Cond.fieldLink RX10 41 (TX10 13).1 (TX10 13).2.1 (TX10 13).2.2.1 ∈ gtbl := gt (i := 694) (by decide +kernel) rfl
theorem fX10_44 : Cond.fieldLink RX10 44 (TX10 14).1 (TX10 14).2.1 (TX10 14).2.2.1 ∈ gtbl := gt (i := 695) (by decide +kernel) rfl
theorem fX10_47 : Cond.fieldLink RX10 47 (TX10 15).1 (TX10 15).2.1 (TX10 15).2.2.1 ∈ gtbl := gt (i := 696) (by decide +kernel) rfl
theorem fX10_50 : Cond.fieldLink RX10 50 (TX10 16).1 (TX10 16).2.1 (TX10 16).2.2.1 ∈ gtbl := gt (i := 697) (by decide +kernel) rfl
theorem fX10_53 : Cond.fieldLink RX10 53 (TX10 17).1 (TX10 17).2.1 (TX10 17).2.2.1 ∈ gtbl := gt (i := 698) (by decide +kernel) rfl
theorem fX10_158 : Cond.fieldLink RX10 158 (TX10 18).1 (TX10 18).2.1 (TX10 18).2.2.1 ∈ gtbl := gt (i := 699) (by decide +kernel) rfl
theorem fX10_56 : Cond.fieldLink RX10 56 (TX10 19).1 (TX10 19).2.1 (TX10 19).2.2.1 ∈ gtbl := gt (i := 700) (by decide +kernel) rfl
theorem fX10_59 : Cond.fieldLink RX10 59 (TX10 20).1 (TX10 20).2.1 (TX10 20).2.2.1 ∈ gtbl := gt (i := 701) (by decide +kernel) rfl
theorem fX10_62 : Cond.fieldLink RX10 62 (TX10 21).1 (TX10 21).2.1 (TX10 21).2.2.1 ∈ gtbl := gt (i := 702) (by decide +kernel) rfl
theorem fX10_65 : Cond.fieldLink RX10 65 (TX10 22).1 (TX10 22).2.1 (TX10 22).2.2.1 ∈ gtbl := gt (i := 703) (by decide +kernel) rfl
theorem fX10_68 : Cond.fieldLink RX10 68 (TX10 23).1 (TX10 23).2.1 (TX10 23).2.2.1 ∈ gtbl := gt (i := 704) (by decide +kernel) rfl
theorem fX10_162 : Cond.fieldLink RX10 162 (TX10 24).1 (TX10 24).2.1 (TX10 24).2.2.1 ∈ gtbl := gt (i := 705) (by decide +kernel) rfl
theorem fX10_71 : Cond.fieldLink RX10 71 (TX10 25).1 (TX10 25).2.1 (TX10 25).2.2.1 ∈ gtbl := gt (i := 706) (by decide +kernel) rfl
theorem fX10_74 : Cond.fieldLink RX10 74 (TX10 26).1 (TX10 26).2.1 (TX10 26).2.2.1 ∈ gtbl := gt (i := 707) (by decide +kernel) rfl
theorem fX10_77 : Cond.fieldLink RX10 77 (TX10 27).1 (TX10 27).2.1 (TX10 27).2.2.1 ∈ gtbl := gt (i := 708) (by decide +kernel) rfl
theorem fX10_80 : Cond.fieldLink RX10 80 (TX10 28).1 (TX10 28).2.1 (TX10 28).2.2.1 ∈ gtbl := gt (i := 709) (by decide +kernel) rfl
theorem fX10_83 : Cond.fieldLink RX10 83 (TX10 29).1 (TX10 29).2.1 (TX10 29).2.2.1 ∈ gtbl := gt (i := 710) (by decide +kernel) rfl
theorem fX10_86 : Cond.fieldLink RX10 86 (TX10 30).1 (TX10 30).2.1 (TX10 30).2.2.1 ∈ gtbl := gt (i := 711) (by decide +kernel) rfl
theorem fX10_165 : Cond.fieldLink RX10 165 (TX10 31).1 (TX10 31).2.1 (TX10 31).2.2.1 ∈ gtbl := gt (i := 712) (by decide +kernel) rfl
theorem fX10_90 : Cond.fieldLink RX10 90 (TX10 32).1 (TX10 32).2.1 (TX10 32).2.2.1 ∈ gtbl := gt (i := 713) (by decide +kernel) rfl
theorem fX10_93 : Cond.fieldLink RX10 93 (TX10 33).1 (TX10 33).2.1 (TX10 33).2.2.1 ∈ gtbl := gt (i := 714) (by decide +kernel) rfl
theorem fX10_96 : Cond.fieldLink RX10 96 (TX10 34).1 (TX10 34).2.1 (TX10 34).2.2.1 ∈ gtbl := gt (i := 715) (by decide +kernel) rfl
theorem fX10_169 : Cond.fieldLink RX10 169 (TX10 35).1 (TX10 35).2.1 (TX10 35).2.2.1 ∈ gtbl := gt (i := 716) (by decide +kernel) rfl
theorem fX10_99 : Cond.fieldLink RX10 99 (TX10 36).1 (TX10 36).2.1 (TX10 36).2.2.1 ∈ gtbl := gt (i := 717) (by decide +kernel) rfl
theorem fX10_102 : Cond.fieldLink RX10 102 (TX10 37).1 (TX10 37).2.1 (TX10 37).2.2.1 ∈ gtbl := gt (i := 718) (by decide +kernel) rfl
theorem fX10_105 : Cond.fieldLink RX10 105 (TX10 38).1 (TX10 38).2.1 (TX10 38).2.2.1 ∈ gtbl := gt (i := 719) (by decide +kernel) rfl
theorem fX10_108 : Cond.fieldLink RX10 108 (TX10 39).1 (TX10 39).2.1 (TX10 39).2.2.1 ∈ gtbl := gt (i := 720) (by decide +kernel) rfl
theorem fX10_197 : Cond.fieldLink RX10 197 (TX10 40).1 (TX10 40).2.1 (TX10 40).2.2.1 ∈ gtbl := gt (i := 721) (by decide +kernel) rfl
theorem fX10_174 : Cond.fieldLink RX10 174 (TX10 41).1 (TX10 41).2.1 (TX10 41).2.2.1 ∈ gtbl := gt (i := 722) (by decide +kernel) rfl
theorem fX10_188 : Cond.fieldLink RX10 188 (TX10 42).1 (TX10 42).2.1 (TX10 42).2.2.1 ∈ gtbl := gt (i := 723) (by decide +kernel) rfl
theorem fX10_194 : Cond.fieldLink RX10 194 (TX10 43).1 (TX10 43).2.1 (TX10 43).2.2.1 ∈ gtbl := gt (i := 724) (by decide +kernel) rfl
theorem fX10_234 : Cond.fieldLink RX10 234 (TX10 44).1 (TX10 44).2.1 (TX10 44).2.2.1 ∈ gtbl := gt (i := 725) (by decide +kernel) rfl
theorem fX10_111 : Cond.fieldLink RX10 111 (TX10 45).1 (TX10 45).2.1 (TX10 45).2.2.1 ∈ gtbl := gt (i := 726) (by decide +kernel) rfl
theorem fX10_114 : Cond.fieldLink RX10 114 (TX10 46).1 (TX10 46).2.1 (TX10 46).2.2.1 ∈ gtbl := gt (i := 727) (by decide +kernel) rfl
theorem fX10_241 : Cond.fieldLink RX10 241 (TX10 47).1 (TX10 47).2.1 (TX10 47).2.2.1 ∈ gtbl := gt (i := 728) (by decide +kernel) rfl
theorem fX10_244 : Cond.fieldLink RX10 244 (TX10 48).1 (TX10 48).2.1 (TX10 48).2.2.1 ∈ gtbl := gt (i := 729) (by decide +kernel) rfl
theorem fX10_247 : Cond.fieldLink RX10 247 (TX10 49).1 (TX10 49).2.1 (TX10 49).2.2.1 ∈ gtbl := gt (i := 730) (by decide +kernel) rfl
theorem fX10_250 : Cond.fieldLink RX10 250 (TX10 50).1 (TX10 50).2.1 (TX10 50).2.2.1 ∈ gtbl := gt (i := 731) (by decide +kernel) rfl
theorem fX10_117 : Cond.fieldLink RX10 117 (TX10 51).1 (TX10 51).2.1 (TX10 51).2.2.1 ∈ gtbl := gt (i := 732) (by decide +kernel) rfl
theorem fX10_120 : Cond.fieldLink RX10 120 (TX10 52).1 (TX10 52).2.1 (TX10 52).2.2.1 ∈ gtbl := gt (i := 733) (by decide +kernel) rfl
theorem fX10_123 : Cond.fieldLink RX10 123 (TX10 53).1 (TX10 53).2.1 (TX10 53).2.2.1 ∈ gtbl := gt (i := 734) (by decide +kernel) rfl
theorem fX10_126 : Cond.fieldLink RX10 126 (TX10 54).1 (TX10 54).2.1 (TX10 54).2.2.1 ∈ gtbl := gt (i := 735) (by decide +kernel) rfl
theorem fX10_237 : Cond.fieldLink RX10 237 (TX10 55).1 (TX10 55).2.1 (TX10 55).2.2.1 ∈ gtbl := gt (i := 736) (by decide +kernel) rfl
theorem fX10_129 : Cond.fieldLink RX10 129 (TX10 56).1 (TX10 56).2.1 (TX10 56).2.2.1 ∈ gtbl := gt (i := 737) (by decide +kernel) rfl
theorem fX10_132 : Cond.fieldLink RX10 132 (TX10 57).1 (TX10 57).2.1 (TX10 57).2.2.1 ∈ gtbl := gt (i := 738) (by decide +kernel) rfl
theorem fX10_135 : Cond.fieldLink RX10 135 (TX10 58).1 (TX10 58).2.1 (TX10 58).2.2.1 ∈ gtbl := gt (i := 739) (by decide +kernel) rfl
theorem lL_15 : Cond.methodLink RL 15 yX9_init ∈ gtbl := gt (i := 23) (by decide +kernel) rfl
theorem lX9_1 : Cond.methodLink RX9 1 objectInit ∈ gtbl := gt (i := 26) (by decide +kernel) rfl
theorem lX9_9 : Cond.methodLink RX9 9 yJx4a65c_init_da8c8 ∈ gtbl := gt (i := 31) (by decide +kernel) rfl
theorem lJx4a65c_1 : Cond.methodLink RJx4a65c 1 yJxc12de_init_da8c8 ∈ gtbl := gt (i := 34) (by decide +kernel) rfl
theorem lJxc12de_1 : Cond.methodLink RJxc12de 1 yJxa1e45_init_da8c8 ∈ gtbl := gt (i := 37) (by decide +kernel) rfl
theorem lJxa1e45_1 : Cond.methodLink RJxa1e45 1 objectInit ∈ gtbl := gt (i := 40) (by decide +kernel) rfl
theorem lX4_3 : Cond.methodLink RX4 3 objectInit ∈ gtbl := gt (i := 60) (by decide +kernel) rfl
theorem lX4_11 : Cond.methodLink RX4 11 yJx4a65c_init_da8c8 ∈ gtbl := gt (i := 62) (by decide +kernel) rfl
theorem lX9_46 : Cond.methodLink RX9 46 yJ9_min_7cf53 ∈ gtbl := gt (i := 98) (by decide +kernel) rfl
theorem lX9_52 : Cond.methodLink RX9 52 yJ9_max_7cf53 ∈ gtbl := gt (i := 101) (by decide +kernel) rfl
theorem lL_21 : Cond.methodLink RL 21 yX9_node ∈ gtbl := gt (i := 147) (by decide +kernel) rfl
theorem lX9_59 : Cond.methodLink RX9 59 yJx4a65c_size_8abf5 ∈ gtbl := gt (i := 151) (by decide +kernel) rfl
theorem lX9_63 : Cond.methodLink RX9 63 yX9_isHeight ∈ gtbl := gt (i := 155) (by decide +kernel) rfl
theorem lX9_68 : Cond.methodLink RX9 68 yX9_isWithin ∈ gtbl := gt (i := 160) (by decide +kernel) rfl
theorem lX9_74 : Cond.methodLink RX9 74 yX5_init ∈ gtbl := gt (i := 165) (by decide +kernel) rfl
theorem lX5_3 : Cond.methodLink RX5 3 objectInit ∈ gtbl := gt (i := 168) (by decide +kernel) rfl
theorem lX9_77 : Cond.methodLink RX9 77 yJx4a65c_add_9ea2d ∈ gtbl := gt (i := 204) (by decide +kernel) rfl
theorem lJx4a65c_131 : Cond.methodLink RJx4a65c 131 yJx4a65c_add_72be8 ∈ gtbl := gt (i := 208) (by decide +kernel) rfl
theorem lJx4a65c_129 : Cond.methodLink RJx4a65c 129 yJx4a65c_grow_d5877 ∈ gtbl := gt (i := 212) (by decide +kernel) rfl
theorem lJx4a65c_69 : Cond.methodLink RJx4a65c 69 yJx4a65c_grow_92f84 ∈ gtbl := gt (i := 216) (by decide +kernel) rfl
theorem lJx4a65c_73 : Cond.methodLink RJx4a65c 73 yJ8_newLength_cabcc ∈ gtbl := gt (i := 220) (by decide +kernel) rfl
theorem lJ8_194 : Cond.methodLink RJ8 194 yJ9_max_7cf53 ∈ gtbl := gt (i := 223) (by decide +kernel) rfl
theorem lJ8_201 : Cond.methodLink RJ8 201 yJ8_hugeLength_7cf53 ∈ gtbl := gt (i := 225) (by decide +kernel) rfl
theorem lJx4a65c_66 : Cond.methodLink RJx4a65c 66 yJ7_copyOf_1904c ∈ gtbl := gt (i := 228) (by decide +kernel) rfl
theorem lJ7_300 : Cond.methodLink RJ7 300 yJ7_copyOf_6403c ∈ gtbl := gt (i := 247) (by decide +kernel) rfl
theorem lJ7_304 : Cond.methodLink RJ7 304 yJ9_min_7cf53 ∈ gtbl := gt (i := 253) (by decide +kernel) rfl
theorem lJx4a65c_79 : Cond.methodLink RJx4a65c 79 yJ9_max_7cf53 ∈ gtbl := gt (i := 257) (by decide +kernel) rfl
theorem lL_26 : Cond.methodLink RL 26 yX9_pipe ∈ gtbl := gt (i := 259) (by decide +kernel) rfl
theorem lX9_81 : Cond.methodLink RX9 81 yX9_areTwoNodes ∈ gtbl := gt (i := 263) (by decide +kernel) rfl
theorem lX9_94 : Cond.methodLink RX9 94 yX9_isNode ∈ gtbl := gt (i := 267) (by decide +kernel) rfl
theorem lX9_87 : Cond.methodLink RX9 87 yJx4a65c_get_915e3 ∈ gtbl := gt (i := 273) (by decide +kernel) rfl
theorem lJx4a65c_118 : Cond.methodLink RJx4a65c 118 yJ15_checkIndex_7cf53 ∈ gtbl := gt (i := 277) (by decide +kernel) rfl
theorem lJ15_105 : Cond.methodLink RJ15 105 yJ3_checkIndex_8e157 ∈ gtbl := gt (i := 280) (by decide +kernel) rfl
theorem lJx4a65c_123 : Cond.methodLink RJx4a65c 123 yJx4a65c_elementData_915e3 ∈ gtbl := gt (i := 283) (by decide +kernel) rfl
theorem lX9_91 : Cond.methodLink RX9 91 yX7_init ∈ gtbl := gt (i := 287) (by decide +kernel) rfl
theorem lX7_1 : Cond.methodLink RX7 1 objectInit ∈ gtbl := gt (i := 290) (by decide +kernel) rfl
theorem lL_31 : Cond.methodLink RL 31 yX9_area ∈ gtbl := gt (i := 317) (by decide +kernel) rfl
theorem lX9_100 : Cond.methodLink RX9 100 yX0_init ∈ gtbl := gt (i := 324) (by decide +kernel) rfl
theorem lX0_3 : Cond.methodLink RX0 3 objectInit ∈ gtbl := gt (i := 327) (by decide +kernel) rfl
theorem lL_35 : Cond.methodLink RL 35 yX9_rain ∈ gtbl := gt (i := 338) (by decide +kernel) rfl
theorem lL_40 : Cond.methodLink RL 40 yX9_pump ∈ gtbl := gt (i := 342) (by decide +kernel) rfl
theorem lX9_105 : Cond.methodLink RX9 105 yX8_init ∈ gtbl := gt (i := 348) (by decide +kernel) rfl
theorem lX8_1 : Cond.methodLink RX8 1 objectInit ∈ gtbl := gt (i := 351) (by decide +kernel) rfl
theorem lL_45 : Cond.methodLink RL 45 yX9_gate ∈ gtbl := gt (i := 372) (by decide +kernel) rfl
theorem lX9_111 : Cond.methodLink RX9 111 yX2_init ∈ gtbl := gt (i := 379) (by decide +kernel) rfl
theorem lX2_1 : Cond.methodLink RX2 1 objectInit ∈ gtbl := gt (i := 382) (by decide +kernel) rfl
theorem lL_49 : Cond.methodLink RL 49 yX9_gully ∈ gtbl := gt (i := 393) (by decide +kernel) rfl
theorem lX9_112 : Cond.methodLink RX9 112 yX9_isCell ∈ gtbl := gt (i := 397) (by decide +kernel) rfl
theorem lX9_117 : Cond.methodLink RX9 117 yX3_init ∈ gtbl := gt (i := 402) (by decide +kernel) rfl
theorem lX3_1 : Cond.methodLink RX3 1 objectInit ∈ gtbl := gt (i := 405) (by decide +kernel) rfl
theorem lL_53 : Cond.methodLink RL 53 yX9_street ∈ gtbl := gt (i := 417) (by decide +kernel) rfl
theorem lL_57 : Cond.methodLink RL 57 yX9_run ∈ gtbl := gt (i := 421) (by decide +kernel) rfl
theorem lX9_127 : Cond.methodLink RX9 127 yX9_passSecond ∈ gtbl := gt (i := 426) (by decide +kernel) rfl
theorem lX9_203 : Cond.methodLink RX9 203 yX9_rainOnAreas ∈ gtbl := gt (i := 430) (by decide +kernel) rfl
theorem lX9_221 : Cond.methodLink RX9 221 yX0_takeRain ∈ gtbl := gt (i := 434) (by decide +kernel) rfl
theorem lX9_206 : Cond.methodLink RX9 206 yX9_carryByPipes ∈ gtbl := gt (i := 439) (by decide +kernel) rfl
theorem lX9_225 : Cond.methodLink RX9 225 yX5_markLevel ∈ gtbl := gt (i := 443) (by decide +kernel) rfl
theorem lX5_28 : Cond.methodLink RX5 28 yX5_levelNow ∈ gtbl := gt (i := 447) (by decide +kernel) rfl
theorem lX9_228 : Cond.methodLink RX9 228 yX7_carry ∈ gtbl := gt (i := 451) (by decide +kernel) rfl
theorem lX7_33 : Cond.methodLink RX7 33 yX5_giveTo ∈ gtbl := gt (i := 455) (by decide +kernel) rfl
theorem lX5_35 : Cond.methodLink RX5 35 yJ9_min_f86c9 ∈ gtbl := gt (i := 459) (by decide +kernel) rfl
theorem lX9_209 : Cond.methodLink RX9 209 yX8_lift ∈ gtbl := gt (i := 462) (by decide +kernel) rfl
theorem lX8_26 : Cond.methodLink RX8 26 yX5_levelNow ∈ gtbl := gt (i := 466) (by decide +kernel) rfl
theorem lX8_36 : Cond.methodLink RX8 36 yX5_giveTo ∈ gtbl := gt (i := 467) (by decide +kernel) rfl
theorem lX9_212 : Cond.methodLink RX9 212 yX2_letOut ∈ gtbl := gt (i := 468) (by decide +kernel) rfl
theorem lX2_29 : Cond.methodLink RX2 29 yJ9_min_f86c9 ∈ gtbl := gt (i := 472) (by decide +kernel) rfl
theorem lX2_35 : Cond.methodLink RX2 35 yJ9_max_f86c9 ∈ gtbl := gt (i := 473) (by decide +kernel) rfl
theorem lX9_215 : Cond.methodLink RX9 215 yX9_drainCells ∈ gtbl := gt (i := 476) (by decide +kernel) rfl
theorem lX9_234 : Cond.methodLink RX9 234 yX3_drain ∈ gtbl := gt (i := 480) (by decide +kernel) rfl
theorem lX3_29 : Cond.methodLink RX3 29 yJ9_max_f86c9 ∈ gtbl := gt (i := 484) (by decide +kernel) rfl
theorem lX3_35 : Cond.methodLink RX3 35 yJ9_min_f86c9 ∈ gtbl := gt (i := 485) (by decide +kernel) rfl
theorem lX9_218 : Cond.methodLink RX9 218 yX9_spillNodes ∈ gtbl := gt (i := 486) (by decide +kernel) rfl
theorem lX9_238 : Cond.methodLink RX9 238 yX5_spill ∈ gtbl := gt (i := 490) (by decide +kernel) rfl
theorem lX5_41 : Cond.methodLink RX5 41 yJ9_max_f86c9 ∈ gtbl := gt (i := 494) (by decide +kernel) rfl
theorem lL_62 : Cond.methodLink RL 62 yX9_told ∈ gtbl := gt (i := 495) (by decide +kernel) rfl
theorem lX9_136 : Cond.methodLink RX9 136 yX5_levelNow ∈ gtbl := gt (i := 500) (by decide +kernel) rfl
theorem lL_67 : Cond.methodLink RL 67 yX9_flow ∈ gtbl := gt (i := 501) (by decide +kernel) rfl
theorem lL_71 : Cond.methodLink RL 71 yX9_cell ∈ gtbl := gt (i := 506) (by decide +kernel) rfl
theorem lL_75 : Cond.methodLink RL 75 yX9_pumps ∈ gtbl := gt (i := 511) (by decide +kernel) rfl
theorem lL_79 : Cond.methodLink RL 79 yX9_litres ∈ gtbl := gt (i := 515) (by decide +kernel) rfl
theorem lX9_166 : Cond.methodLink RX9 166 yX9_litresInNodes ∈ gtbl := gt (i := 519) (by decide +kernel) rfl
theorem lX9_169 : Cond.methodLink RX9 169 yX9_litresInCells ∈ gtbl := gt (i := 523) (by decide +kernel) rfl
theorem lL_83 : Cond.methodLink RL 83 yX9_keeps ∈ gtbl := gt (i := 527) (by decide +kernel) rfl
theorem lL_88 : Cond.methodLink RL 88 yX9_list ∈ gtbl := gt (i := 531) (by decide +kernel) rfl
theorem lX9_178 : Cond.methodLink RX9 178 yX4_addEntry ∈ gtbl := gt (i := 535) (by decide +kernel) rfl
theorem lX4_25 : Cond.methodLink RX4 25 yJx4a65c_size_8abf5 ∈ gtbl := gt (i := 539) (by decide +kernel) rfl
theorem lX4_29 : Cond.methodLink RX4 29 yJx4a65c_get_915e3 ∈ gtbl := gt (i := 540) (by decide +kernel) rfl
theorem lX4_39 : Cond.methodLink RX4 39 yX1_init ∈ gtbl := gt (i := 543) (by decide +kernel) rfl
theorem lX1_1 : Cond.methodLink RX1 1 objectInit ∈ gtbl := gt (i := 546) (by decide +kernel) rfl
theorem lX4_42 : Cond.methodLink RX4 42 yJx4a65c_add_9ea2d ∈ gtbl := gt (i := 556) (by decide +kernel) rfl
theorem lL_92 : Cond.methodLink RL 92 yX9_begin ∈ gtbl := gt (i := 557) (by decide +kernel) rfl
theorem lX9_181 : Cond.methodLink RX9 181 yX4_beginAnew ∈ gtbl := gt (i := 561) (by decide +kernel) rfl
theorem lL_97 : Cond.methodLink RL 97 yX9_piece ∈ gtbl := gt (i := 565) (by decide +kernel) rfl
theorem lX9_185 : Cond.methodLink RX9 185 yX4_addPiece ∈ gtbl := gt (i := 569) (by decide +kernel) rfl
theorem lX4_64 : Cond.methodLink RX4 64 yX6_init ∈ gtbl := gt (i := 575) (by decide +kernel) rfl
theorem lX6_3 : Cond.methodLink RX6 3 objectInit ∈ gtbl := gt (i := 578) (by decide +kernel) rfl
theorem lL_101 : Cond.methodLink RL 101 yX9_lay ∈ gtbl := gt (i := 602) (by decide +kernel) rfl
theorem lX9_189 : Cond.methodLink RX9 189 yX4_layBest ∈ gtbl := gt (i := 606) (by decide +kernel) rfl
theorem lX4_82 : Cond.methodLink RX4 82 yJx4a65c_isEmpty_aae02 ∈ gtbl := gt (i := 611) (by decide +kernel) rfl
theorem lX4_88 : Cond.methodLink RX4 88 yX4_weighPiece ∈ gtbl := gt (i := 616) (by decide +kernel) rfl
theorem lX4_113 : Cond.methodLink RX4 113 yX4_leastFall ∈ gtbl := gt (i := 620) (by decide +kernel) rfl
theorem lX4_130 : Cond.methodLink RX4 130 yJ9_min_f86c9 ∈ gtbl := gt (i := 626) (by decide +kernel) rfl
theorem lX4_147 : Cond.methodLink RX4 147 yJ9_max_f86c9 ∈ gtbl := gt (i := 627) (by decide +kernel) rfl
theorem lX4_117 : Cond.methodLink RX4 117 yX4_weighEnds ∈ gtbl := gt (i := 628) (by decide +kernel) rfl
theorem lX4_136 : Cond.methodLink RX4 136 yX4_costFrom ∈ gtbl := gt (i := 632) (by decide +kernel) rfl
theorem lX4_123 : Cond.methodLink RX4 123 yX4_cheapestEnd ∈ gtbl := gt (i := 638) (by decide +kernel) rfl
theorem lX4_127 : Cond.methodLink RX4 127 yX4_isCoveredAtBegin ∈ gtbl := gt (i := 642) (by decide +kernel) rfl
theorem lX4_96 : Cond.methodLink RX4 96 yX4_followBest ∈ gtbl := gt (i := 646) (by decide +kernel) rfl
theorem lX4_150 : Cond.methodLink RX4 150 yX4_layPiece ∈ gtbl := gt (i := 650) (by decide +kernel) rfl
theorem lX4_154 : Cond.methodLink RX4 154 yX4_fallThatCosts ∈ gtbl := gt (i := 654) (by decide +kernel) rfl
theorem lL_105 : Cond.methodLink RL 105 yX9_laid ∈ gtbl := gt (i := 658) (by decide +kernel) rfl
theorem lX9_193 : Cond.methodLink RX9 193 yX4_tellLaid ∈ gtbl := gt (i := 662) (by decide +kernel) rfl
theorem lL_109 : Cond.methodLink RL 109 yX9_count ∈ gtbl := gt (i := 668) (by decide +kernel) rfl
theorem lL_9 : Cond.methodLink RL 9 yL_cell ∈ gtbl := gt (i := 672) (by decide +kernel) rfl
theorem lL_20 : Cond.methodLink RL 20 yX10_init ∈ gtbl := gt (i := 677) (by decide +kernel) rfl
theorem lX10_1 : Cond.methodLink RX10 1 objectInit ∈ gtbl := gt (i := 680) (by decide +kernel) rfl
theorem lL_25 : Cond.methodLink RL 25 yX10_node ∈ gtbl := gt (i := 860) (by decide +kernel) rfl
theorem lX10_145 : Cond.methodLink RX10 145 yX10_is ∈ gtbl := gt (i := 866) (by decide +kernel) rfl
theorem lL_30 : Cond.methodLink RL 30 yX10_pipe ∈ gtbl := gt (i := 869) (by decide +kernel) rfl
theorem lX10_154 : Cond.methodLink RX10 154 yX10_isNode ∈ gtbl := gt (i := 873) (by decide +kernel) rfl
theorem lL_34 : Cond.methodLink RL 34 yX10_area ∈ gtbl := gt (i := 877) (by decide +kernel) rfl
theorem lL_39 : Cond.methodLink RL 39 yX10_rain ∈ gtbl := gt (i := 882) (by decide +kernel) rfl
theorem lL_44 : Cond.methodLink RL 44 yX10_pump ∈ gtbl := gt (i := 886) (by decide +kernel) rfl
theorem lL_48 : Cond.methodLink RL 48 yX10_gate ∈ gtbl := gt (i := 890) (by decide +kernel) rfl
theorem lL_52 : Cond.methodLink RL 52 yX10_gully ∈ gtbl := gt (i := 895) (by decide +kernel) rfl
theorem lL_56 : Cond.methodLink RL 56 yX10_street ∈ gtbl := gt (i := 899) (by decide +kernel) rfl
theorem lL_61 : Cond.methodLink RL 61 yX10_run ∈ gtbl := gt (i := 903) (by decide +kernel) rfl
theorem lX10_201 : Cond.methodLink RX10 201 yX10_rainOf ∈ gtbl := gt (i := 908) (by decide +kernel) rfl
theorem lX10_184 : Cond.methodLink RX10 184 yX10_levelOf ∈ gtbl := gt (i := 913) (by decide +kernel) rfl
theorem lX10_205 : Cond.methodLink RX10 205 yX10_flowOf ∈ gtbl := gt (i := 917) (by decide +kernel) rfl
theorem lX10_180 : Cond.methodLink RX10 180 yX10_less ∈ gtbl := gt (i := 922) (by decide +kernel) rfl
theorem lX10_209 : Cond.methodLink RX10 209 yX10_pumpOf ∈ gtbl := gt (i := 925) (by decide +kernel) rfl
theorem lX10_212 : Cond.methodLink RX10 212 yX10_gateOf ∈ gtbl := gt (i := 929) (by decide +kernel) rfl
theorem lX10_215 : Cond.methodLink RX10 215 yX10_gullyOf ∈ gtbl := gt (i := 933) (by decide +kernel) rfl
theorem lX10_191 : Cond.methodLink RX10 191 yX10_fullOf ∈ gtbl := gt (i := 937) (by decide +kernel) rfl
theorem lX10_218 : Cond.methodLink RX10 218 yX10_nodeOf ∈ gtbl := gt (i := 941) (by decide +kernel) rfl
theorem lL_66 : Cond.methodLink RL 66 yX10_told ∈ gtbl := gt (i := 945) (by decide +kernel) rfl
theorem lL_70 : Cond.methodLink RL 70 yX10_flow ∈ gtbl := gt (i := 950) (by decide +kernel) rfl
theorem lL_74 : Cond.methodLink RL 74 yX10_cell ∈ gtbl := gt (i := 955) (by decide +kernel) rfl
theorem lL_78 : Cond.methodLink RL 78 yX10_pumps ∈ gtbl := gt (i := 960) (by decide +kernel) rfl
theorem lL_82 : Cond.methodLink RL 82 yX10_litres ∈ gtbl := gt (i := 964) (by decide +kernel) rfl
theorem lX10_227 : Cond.methodLink RX10 227 yX10_inNodes ∈ gtbl := gt (i := 968) (by decide +kernel) rfl
theorem lX10_231 : Cond.methodLink RX10 231 yX10_inCells ∈ gtbl := gt (i := 972) (by decide +kernel) rfl
theorem lL_87 : Cond.methodLink RL 87 yX10_keeps ∈ gtbl := gt (i := 976) (by decide +kernel) rfl
theorem lL_91 : Cond.methodLink RL 91 yX10_list ∈ gtbl := gt (i := 980) (by decide +kernel) rfl
theorem lL_96 : Cond.methodLink RL 96 yX10_begin ∈ gtbl := gt (i := 984) (by decide +kernel) rfl
theorem lL_100 : Cond.methodLink RL 100 yX10_piece ∈ gtbl := gt (i := 988) (by decide +kernel) rfl
theorem lL_104 : Cond.methodLink RL 104 yX10_lay ∈ gtbl := gt (i := 992) (by decide +kernel) rfl
theorem lX10_259 : Cond.methodLink RX10 259 yX10_with ∈ gtbl := gt (i := 997) (by decide +kernel) rfl
theorem lX10_255 : Cond.methodLink RX10 255 yX10_place ∈ gtbl := gt (i := 1001) (by decide +kernel) rfl
theorem lL_108 : Cond.methodLink RL 108 yX10_laid ∈ gtbl := gt (i := 1006) (by decide +kernel) rfl
theorem lL_112 : Cond.methodLink RL 112 yX10_count ∈ gtbl := gt (i := 1011) (by decide +kernel) rfl
theorem kL_7 : Cond.classLink RL 7 RX9 ∈ gtbl := gt (i := 21) (by decide +kernel) rfl
theorem kX9_7 : Cond.classLink RX9 7 RJx4a65c ∈ gtbl := gt (i := 29) (by decide +kernel) rfl
theorem kX9_39 : Cond.classLink RX9 39 RX4 ∈ gtbl := gt (i := 55) (by decide +kernel) rfl
theorem kX4_9 : Cond.classLink RX4 9 RJx4a65c ∈ gtbl := gt (i := 61) (by decide +kernel) rfl
theorem kX9_72 : Cond.classLink RX9 72 RX5 ∈ gtbl := gt (i := 163) (by decide +kernel) rfl
theorem kJ7_110 : Cond.classLink RJ7 110 "[Ljava/lang/Object;" ∈ gtbl := gt (i := 250) (by decide +kernel) rfl
theorem kJ7_2 : Cond.classLink RJ7 2 "java/lang/Object" ∈ gtbl := gt (i := 252) (by decide +kernel) rfl
theorem kJx4a65c_7 : Cond.classLink RJx4a65c 7 "java/lang/Object" ∈ gtbl := gt (i := 258) (by decide +kernel) rfl
theorem kX9_85 : Cond.classLink RX9 85 RX7 ∈ gtbl := gt (i := 271) (by decide +kernel) rfl
theorem kX9_98 : Cond.classLink RX9 98 RX0 ∈ gtbl := gt (i := 322) (by decide +kernel) rfl
theorem kX9_103 : Cond.classLink RX9 103 RX8 ∈ gtbl := gt (i := 346) (by decide +kernel) rfl
theorem kX9_109 : Cond.classLink RX9 109 RX2 ∈ gtbl := gt (i := 377) (by decide +kernel) rfl
theorem kX9_115 : Cond.classLink RX9 115 RX3 ∈ gtbl := gt (i := 400) (by decide +kernel) rfl
theorem kX4_33 : Cond.classLink RX4 33 RX1 ∈ gtbl := gt (i := 541) (by decide +kernel) rfl
theorem kX4_62 : Cond.classLink RX4 62 RX6 ∈ gtbl := gt (i := 573) (by decide +kernel) rfl
theorem kL_18 : Cond.classLink RL 18 RX10 ∈ gtbl := gt (i := 675) (by decide +kernel) rfl
theorem nX9_202 : Cond.constant RX9 202 (-100000) ∈ gtbl := gt (i := 158) (by decide +kernel) rfl
theorem nX9_67 : Cond.constant RX9 67 (100000) ∈ gtbl := gt (i := 159) (by decide +kernel) rfl
theorem nJ8_200 : Cond.constant RJ8 200 (2147483639) ∈ gtbl := gt (i := 224) (by decide +kernel) rfl
theorem nX7_20 : Cond.constantLong RX7 20 (1000) ∈ gtbl := gt (i := 291) (by decide +kernel) rfl
theorem nX9_97 : Cond.constant RX9 97 (1000000) ∈ gtbl := gt (i := 321) (by decide +kernel) rfl
theorem nX9_108 : Cond.constant RX9 108 (200000) ∈ gtbl := gt (i := 376) (by decide +kernel) rfl
theorem nX9_126 : Cond.constant RX9 126 (86400) ∈ gtbl := gt (i := 425) (by decide +kernel) rfl
theorem nX0_22 : Cond.constantLong RX0 22 (60000000) ∈ gtbl := gt (i := 438) (by decide +kernel) rfl
theorem nX9_130 : Cond.constantLong RX9 130 (-1099511627776) ∈ gtbl := gt (i := 499) (by decide +kernel) rfl
theorem nX9_146 : Cond.constantLong RX9 146 (-1152921504606846976) ∈ gtbl := gt (i := 505) (by decide +kernel) rfl
theorem nX9_157 : Cond.constantLong RX9 157 (-1) ∈ gtbl := gt (i := 510) (by decide +kernel) rfl
theorem nX4_74 : Cond.constantLong RX4 74 (-1) ∈ gtbl := gt (i := 610) (by decide +kernel) rfl
theorem nX4_86 : Cond.constantLong RX4 86 (-2) ∈ gtbl := gt (i := 615) (by decide +kernel) rfl
theorem nX4_143 : Cond.constantLong RX4 143 (1000) ∈ gtbl := gt (i := 624) (by decide +kernel) rfl
theorem nX4_145 : Cond.constantLong RX4 145 (41) ∈ gtbl := gt (i := 625) (by decide +kernel) rfl
theorem nX4_94 : Cond.constantLong RX4 94 (1152921504606846976) ∈ gtbl := gt (i := 636) (by decide +kernel) rfl
theorem nX4_122 : Cond.constant RX4 122 (2147483647) ∈ gtbl := gt (i := 637) (by decide +kernel) rfl
theorem nX4_103 : Cond.constant RX4 103 (-1073741824) ∈ gtbl := gt (i := 667) (by decide +kernel) rfl
theorem nX10_149 : Cond.constant RX10 149 (-100000) ∈ gtbl := gt (i := 864) (by decide +kernel) rfl
theorem nX10_150 : Cond.constant RX10 150 (100000) ∈ gtbl := gt (i := 865) (by decide +kernel) rfl
theorem nX10_161 : Cond.constant RX10 161 (1000000) ∈ gtbl := gt (i := 881) (by decide +kernel) rfl
theorem nX10_168 : Cond.constant RX10 168 (200000) ∈ gtbl := gt (i := 894) (by decide +kernel) rfl
theorem nX10_200 : Cond.constant RX10 200 (86400) ∈ gtbl := gt (i := 907) (by decide +kernel) rfl
theorem nX10_172 : Cond.constantLong RX10 172 (60000000) ∈ gtbl := gt (i := 912) (by decide +kernel) rfl
theorem nX10_178 : Cond.constantLong RX10 178 (1000) ∈ gtbl := gt (i := 921) (by decide +kernel) rfl
theorem nX10_221 : Cond.constantLong RX10 221 (-1099511627776) ∈ gtbl := gt (i := 949) (by decide +kernel) rfl
theorem nX10_223 : Cond.constantLong RX10 223 (-1152921504606846976) ∈ gtbl := gt (i := 954) (by decide +kernel) rfl
theorem nX10_225 : Cond.constantLong RX10 225 (-1) ∈ gtbl := gt (i := 959) (by decide +kernel) rfl
theorem nX10_253 : Cond.constantLong RX10 253 (1152921504606846976) ∈ gtbl := gt (i := 996) (by decide +kernel) rfl
theorem nX10_263 : Cond.constantLong RX10 263 (-2) ∈ gtbl := gt (i := 1005) (by decide +kernel) rfl
theorem nX10_265 : Cond.constant RX10 265 (-1073741824) ∈ gtbl := gt (i := 1010) (by decide +kernel) rfl
theorem inL : Cond.initialized RL ∈ gtbl := gt (i := 0) (by decide +kernel) rfl
theorem inX9 : Cond.initialized RX9 ∈ gtbl := gt (i := 1) (by decide +kernel) rfl
theorem inJxa1e45 : Cond.initialized RJxa1e45 ∈ gtbl := gt (i := 2) (by decide +kernel) rfl
theorem inJxc12de : Cond.initialized RJxc12de ∈ gtbl := gt (i := 3) (by decide +kernel) rfl
theorem inJx4a65c : Cond.initialized RJx4a65c ∈ gtbl := gt (i := 4) (by decide +kernel) rfl
theorem inX4 : Cond.initialized RX4 ∈ gtbl := gt (i := 5) (by decide +kernel) rfl
theorem inJ9 : Cond.initialized RJ9 ∈ gtbl := gt (i := 6) (by decide +kernel) rfl
theorem inX10 : Cond.initialized RX10 ∈ gtbl := gt (i := 7) (by decide +kernel) rfl
theorem inX5 : Cond.initialized RX5 ∈ gtbl := gt (i := 8) (by decide +kernel) rfl
theorem inJ8 : Cond.initialized RJ8 ∈ gtbl := gt (i := 9) (by decide +kernel) rfl
theorem inJ7 : Cond.initialized RJ7 ∈ gtbl := gt (i := 10) (by decide +kernel) rfl
theorem inJ10 : Cond.initialized RJ10 ∈ gtbl := gt (i := 11) (by decide +kernel) rfl
theorem inX7 : Cond.initialized RX7 ∈ gtbl := gt (i := 12) (by decide +kernel) rfl
theorem inJ15 : Cond.initialized RJ15 ∈ gtbl := gt (i := 13) (by decide +kernel) rfl
theorem inJ3 : Cond.initialized RJ3 ∈ gtbl := gt (i := 14) (by decide +kernel) rfl
theorem inX0 : Cond.initialized RX0 ∈ gtbl := gt (i := 15) (by decide +kernel) rfl
theorem inX8 : Cond.initialized RX8 ∈ gtbl := gt (i := 16) (by decide +kernel) rfl
theorem inX2 : Cond.initialized RX2 ∈ gtbl := gt (i := 17) (by decide +kernel) rfl
theorem inX3 : Cond.initialized RX3 ∈ gtbl := gt (i := 18) (by decide +kernel) rfl
theorem inX1 : Cond.initialized RX1 ∈ gtbl := gt (i := 19) (by decide +kernel) rfl
theorem inX6 : Cond.initialized RX6 ∈ gtbl := gt (i := 20) (by decide +kernel) rfl
theorem ibX9 : Cond.instantiable RX9 14 ∈ gtbl := gt (i := 22) (by decide +kernel) rfl
theorem ibJx4a65c : Cond.instantiable RJx4a65c 3 ∈ gtbl := gt (i := 30) (by decide +kernel) rfl
theorem ibX4 : Cond.instantiable RX4 10 ∈ gtbl := gt (i := 56) (by decide +kernel) rfl
theorem ibX5 : Cond.instantiable RX5 8 ∈ gtbl := gt (i := 164) (by decide +kernel) rfl
theorem ibX7 : Cond.instantiable RX7 7 ∈ gtbl := gt (i := 272) (by decide +kernel) rfl
theorem ibX0 : Cond.instantiable RX0 3 ∈ gtbl := gt (i := 323) (by decide +kernel) rfl
theorem ibX8 : Cond.instantiable RX8 6 ∈ gtbl := gt (i := 347) (by decide +kernel) rfl
theorem ibX2 : Cond.instantiable RX2 3 ∈ gtbl := gt (i := 378) (by decide +kernel) rfl
theorem ibX3 : Cond.instantiable RX3 3 ∈ gtbl := gt (i := 401) (by decide +kernel) rfl
theorem ibX1 : Cond.instantiable RX1 2 ∈ gtbl := gt (i := 542) (by decide +kernel) rfl
theorem ibX6 : Cond.instantiable RX6 7 ∈ gtbl := gt (i := 574) (by decide +kernel) rfl
theorem ibX10 : Cond.instantiable RX10 59 ∈ gtbl := gt (i := 676) (by decide +kernel) rfl
theorem i_yX9_init : Cond.instanceMethod yX9_init ∈ gtbl := gt (i := 24) (by decide +kernel) rfl
theorem i_objectInit : Cond.instanceMethod objectInit ∈ gtbl := gt (i := 27) (by decide +kernel) rfl
theorem i_yJx4a65c_init_da8c8 : Cond.instanceMethod yJx4a65c_init_da8c8 ∈ gtbl := gt (i := 32) (by decide +kernel) rfl
theorem i_yJxc12de_init_da8c8 : Cond.instanceMethod yJxc12de_init_da8c8 ∈ gtbl := gt (i := 35) (by decide +kernel) rfl
theorem i_yJxa1e45_init_da8c8 : Cond.instanceMethod yJxa1e45_init_da8c8 ∈ gtbl := gt (i := 38) (by decide +kernel) rfl
theorem i_yX4_init : Cond.instanceMethod yX4_init ∈ gtbl := gt (i := 58) (by decide +kernel) rfl
theorem i_yX9_node : Cond.instanceMethod yX9_node ∈ gtbl := gt (i := 148) (by decide +kernel) rfl
theorem i_yJx4a65c_size_8abf5 : Cond.instanceMethod yJx4a65c_size_8abf5 ∈ gtbl := gt (i := 152) (by decide +kernel) rfl
theorem i_yX5_init : Cond.instanceMethod yX5_init ∈ gtbl := gt (i := 166) (by decide +kernel) rfl
theorem i_yJx4a65c_add_9ea2d : Cond.instanceMethod yJx4a65c_add_9ea2d ∈ gtbl := gt (i := 205) (by decide +kernel) rfl
theorem i_yJx4a65c_add_72be8 : Cond.instanceMethod yJx4a65c_add_72be8 ∈ gtbl := gt (i := 210) (by decide +kernel) rfl
theorem i_yJx4a65c_grow_d5877 : Cond.instanceMethod yJx4a65c_grow_d5877 ∈ gtbl := gt (i := 214) (by decide +kernel) rfl
theorem i_yJx4a65c_grow_92f84 : Cond.instanceMethod yJx4a65c_grow_92f84 ∈ gtbl := gt (i := 218) (by decide +kernel) rfl
theorem i_yX9_pipe : Cond.instanceMethod yX9_pipe ∈ gtbl := gt (i := 260) (by decide +kernel) rfl
theorem i_yX9_areTwoNodes : Cond.instanceMethod yX9_areTwoNodes ∈ gtbl := gt (i := 265) (by decide +kernel) rfl
theorem i_yX9_isNode : Cond.instanceMethod yX9_isNode ∈ gtbl := gt (i := 269) (by decide +kernel) rfl
theorem i_yJx4a65c_get_915e3 : Cond.instanceMethod yJx4a65c_get_915e3 ∈ gtbl := gt (i := 274) (by decide +kernel) rfl
theorem i_yJx4a65c_elementData_915e3 : Cond.instanceMethod yJx4a65c_elementData_915e3 ∈ gtbl := gt (i := 284) (by decide +kernel) rfl
theorem i_yX7_init : Cond.instanceMethod yX7_init ∈ gtbl := gt (i := 288) (by decide +kernel) rfl
theorem i_yX9_area : Cond.instanceMethod yX9_area ∈ gtbl := gt (i := 318) (by decide +kernel) rfl
theorem i_yX0_init : Cond.instanceMethod yX0_init ∈ gtbl := gt (i := 325) (by decide +kernel) rfl
theorem i_yX9_rain : Cond.instanceMethod yX9_rain ∈ gtbl := gt (i := 339) (by decide +kernel) rfl
theorem i_yX9_pump : Cond.instanceMethod yX9_pump ∈ gtbl := gt (i := 343) (by decide +kernel) rfl
theorem i_yX8_init : Cond.instanceMethod yX8_init ∈ gtbl := gt (i := 349) (by decide +kernel) rfl
theorem i_yX9_gate : Cond.instanceMethod yX9_gate ∈ gtbl := gt (i := 373) (by decide +kernel) rfl
theorem i_yX2_init : Cond.instanceMethod yX2_init ∈ gtbl := gt (i := 380) (by decide +kernel) rfl
theorem i_yX9_gully : Cond.instanceMethod yX9_gully ∈ gtbl := gt (i := 394) (by decide +kernel) rfl
theorem i_yX3_init : Cond.instanceMethod yX3_init ∈ gtbl := gt (i := 403) (by decide +kernel) rfl
theorem i_yX9_street : Cond.instanceMethod yX9_street ∈ gtbl := gt (i := 418) (by decide +kernel) rfl
theorem i_yX9_run : Cond.instanceMethod yX9_run ∈ gtbl := gt (i := 422) (by decide +kernel) rfl
theorem i_yX9_passSecond : Cond.instanceMethod yX9_passSecond ∈ gtbl := gt (i := 428) (by decide +kernel) rfl
theorem i_yX9_rainOnAreas : Cond.instanceMethod yX9_rainOnAreas ∈ gtbl := gt (i := 432) (by decide +kernel) rfl
theorem i_yX0_takeRain : Cond.instanceMethod yX0_takeRain ∈ gtbl := gt (i := 435) (by decide +kernel) rfl
theorem i_yX9_carryByPipes : Cond.instanceMethod yX9_carryByPipes ∈ gtbl := gt (i := 441) (by decide +kernel) rfl
theorem i_yX5_markLevel : Cond.instanceMethod yX5_markLevel ∈ gtbl := gt (i := 444) (by decide +kernel) rfl
theorem i_yX5_levelNow : Cond.instanceMethod yX5_levelNow ∈ gtbl := gt (i := 448) (by decide +kernel) rfl
theorem i_yX7_carry : Cond.instanceMethod yX7_carry ∈ gtbl := gt (i := 452) (by decide +kernel) rfl
theorem i_yX5_giveTo : Cond.instanceMethod yX5_giveTo ∈ gtbl := gt (i := 456) (by decide +kernel) rfl
theorem i_yX8_lift : Cond.instanceMethod yX8_lift ∈ gtbl := gt (i := 463) (by decide +kernel) rfl
theorem i_yX2_letOut : Cond.instanceMethod yX2_letOut ∈ gtbl := gt (i := 469) (by decide +kernel) rfl
theorem i_yX9_drainCells : Cond.instanceMethod yX9_drainCells ∈ gtbl := gt (i := 478) (by decide +kernel) rfl
theorem i_yX3_drain : Cond.instanceMethod yX3_drain ∈ gtbl := gt (i := 481) (by decide +kernel) rfl
theorem i_yX9_spillNodes : Cond.instanceMethod yX9_spillNodes ∈ gtbl := gt (i := 488) (by decide +kernel) rfl
theorem i_yX5_spill : Cond.instanceMethod yX5_spill ∈ gtbl := gt (i := 491) (by decide +kernel) rfl
theorem i_yX9_told : Cond.instanceMethod yX9_told ∈ gtbl := gt (i := 496) (by decide +kernel) rfl
theorem i_yX9_flow : Cond.instanceMethod yX9_flow ∈ gtbl := gt (i := 502) (by decide +kernel) rfl
theorem i_yX9_cell : Cond.instanceMethod yX9_cell ∈ gtbl := gt (i := 507) (by decide +kernel) rfl
theorem i_yX9_pumps : Cond.instanceMethod yX9_pumps ∈ gtbl := gt (i := 512) (by decide +kernel) rfl
theorem i_yX9_litres : Cond.instanceMethod yX9_litres ∈ gtbl := gt (i := 516) (by decide +kernel) rfl
theorem i_yX9_litresInNodes : Cond.instanceMethod yX9_litresInNodes ∈ gtbl := gt (i := 521) (by decide +kernel) rfl
theorem i_yX9_litresInCells : Cond.instanceMethod yX9_litresInCells ∈ gtbl := gt (i := 525) (by decide +kernel) rfl
theorem i_yX9_keeps : Cond.instanceMethod yX9_keeps ∈ gtbl := gt (i := 528) (by decide +kernel) rfl
theorem i_yX9_list : Cond.instanceMethod yX9_list ∈ gtbl := gt (i := 532) (by decide +kernel) rfl
theorem i_yX4_addEntry : Cond.instanceMethod yX4_addEntry ∈ gtbl := gt (i := 536) (by decide +kernel) rfl
theorem i_yX1_init : Cond.instanceMethod yX1_init ∈ gtbl := gt (i := 544) (by decide +kernel) rfl
theorem i_yX9_begin : Cond.instanceMethod yX9_begin ∈ gtbl := gt (i := 558) (by decide +kernel) rfl
theorem i_yX4_beginAnew : Cond.instanceMethod yX4_beginAnew ∈ gtbl := gt (i := 562) (by decide +kernel) rfl
theorem i_yX9_piece : Cond.instanceMethod yX9_piece ∈ gtbl := gt (i := 566) (by decide +kernel) rfl
theorem i_yX4_addPiece : Cond.instanceMethod yX4_addPiece ∈ gtbl := gt (i := 570) (by decide +kernel) rfl
theorem i_yX6_init : Cond.instanceMethod yX6_init ∈ gtbl := gt (i := 576) (by decide +kernel) rfl
theorem i_yX9_lay : Cond.instanceMethod yX9_lay ∈ gtbl := gt (i := 603) (by decide +kernel) rfl
theorem i_yX4_layBest : Cond.instanceMethod yX4_layBest ∈ gtbl := gt (i := 607) (by decide +kernel) rfl
theorem i_yJx4a65c_isEmpty_aae02 : Cond.instanceMethod yJx4a65c_isEmpty_aae02 ∈ gtbl := gt (i := 612) (by decide +kernel) rfl
theorem i_yX4_weighPiece : Cond.instanceMethod yX4_weighPiece ∈ gtbl := gt (i := 618) (by decide +kernel) rfl
theorem i_yX4_leastFall : Cond.instanceMethod yX4_leastFall ∈ gtbl := gt (i := 622) (by decide +kernel) rfl
theorem i_yX4_weighEnds : Cond.instanceMethod yX4_weighEnds ∈ gtbl := gt (i := 630) (by decide +kernel) rfl
theorem i_yX4_costFrom : Cond.instanceMethod yX4_costFrom ∈ gtbl := gt (i := 634) (by decide +kernel) rfl
theorem i_yX4_cheapestEnd : Cond.instanceMethod yX4_cheapestEnd ∈ gtbl := gt (i := 640) (by decide +kernel) rfl
theorem i_yX4_isCoveredAtBegin : Cond.instanceMethod yX4_isCoveredAtBegin ∈ gtbl := gt (i := 644) (by decide +kernel) rfl
theorem i_yX4_followBest : Cond.instanceMethod yX4_followBest ∈ gtbl := gt (i := 648) (by decide +kernel) rfl
theorem i_yX4_layPiece : Cond.instanceMethod yX4_layPiece ∈ gtbl := gt (i := 652) (by decide +kernel) rfl
theorem i_yX4_fallThatCosts : Cond.instanceMethod yX4_fallThatCosts ∈ gtbl := gt (i := 656) (by decide +kernel) rfl
theorem i_yX9_laid : Cond.instanceMethod yX9_laid ∈ gtbl := gt (i := 659) (by decide +kernel) rfl
theorem i_yX4_tellLaid : Cond.instanceMethod yX4_tellLaid ∈ gtbl := gt (i := 663) (by decide +kernel) rfl
theorem i_yX9_count : Cond.instanceMethod yX9_count ∈ gtbl := gt (i := 669) (by decide +kernel) rfl
theorem i_yX10_init : Cond.instanceMethod yX10_init ∈ gtbl := gt (i := 678) (by decide +kernel) rfl
theorem i_yX10_node : Cond.instanceMethod yX10_node ∈ gtbl := gt (i := 861) (by decide +kernel) rfl
theorem i_yX10_pipe : Cond.instanceMethod yX10_pipe ∈ gtbl := gt (i := 870) (by decide +kernel) rfl
theorem i_yX10_isNode : Cond.instanceMethod yX10_isNode ∈ gtbl := gt (i := 875) (by decide +kernel) rfl
theorem i_yX10_area : Cond.instanceMethod yX10_area ∈ gtbl := gt (i := 878) (by decide +kernel) rfl
theorem i_yX10_rain : Cond.instanceMethod yX10_rain ∈ gtbl := gt (i := 883) (by decide +kernel) rfl
theorem i_yX10_pump : Cond.instanceMethod yX10_pump ∈ gtbl := gt (i := 887) (by decide +kernel) rfl
theorem i_yX10_gate : Cond.instanceMethod yX10_gate ∈ gtbl := gt (i := 891) (by decide +kernel) rfl
theorem i_yX10_gully : Cond.instanceMethod yX10_gully ∈ gtbl := gt (i := 896) (by decide +kernel) rfl
theorem i_yX10_street : Cond.instanceMethod yX10_street ∈ gtbl := gt (i := 900) (by decide +kernel) rfl
theorem i_yX10_run : Cond.instanceMethod yX10_run ∈ gtbl := gt (i := 904) (by decide +kernel) rfl
theorem i_yX10_rainOf : Cond.instanceMethod yX10_rainOf ∈ gtbl := gt (i := 910) (by decide +kernel) rfl
theorem i_yX10_levelOf : Cond.instanceMethod yX10_levelOf ∈ gtbl := gt (i := 915) (by decide +kernel) rfl
theorem i_yX10_flowOf : Cond.instanceMethod yX10_flowOf ∈ gtbl := gt (i := 919) (by decide +kernel) rfl
theorem i_yX10_pumpOf : Cond.instanceMethod yX10_pumpOf ∈ gtbl := gt (i := 927) (by decide +kernel) rfl
theorem i_yX10_gateOf : Cond.instanceMethod yX10_gateOf ∈ gtbl := gt (i := 931) (by decide +kernel) rfl
theorem i_yX10_gullyOf : Cond.instanceMethod yX10_gullyOf ∈ gtbl := gt (i := 935) (by decide +kernel) rfl
theorem i_yX10_fullOf : Cond.instanceMethod yX10_fullOf ∈ gtbl := gt (i := 939) (by decide +kernel) rfl
theorem i_yX10_nodeOf : Cond.instanceMethod yX10_nodeOf ∈ gtbl := gt (i := 943) (by decide +kernel) rfl
theorem i_yX10_told : Cond.instanceMethod yX10_told ∈ gtbl := gt (i := 946) (by decide +kernel) rfl
theorem i_yX10_flow : Cond.instanceMethod yX10_flow ∈ gtbl := gt (i := 951) (by decide +kernel) rfl
theorem i_yX10_cell : Cond.instanceMethod yX10_cell ∈ gtbl := gt (i := 956) (by decide +kernel) rfl
theorem i_yX10_pumps : Cond.instanceMethod yX10_pumps ∈ gtbl := gt (i := 961) (by decide +kernel) rfl
theorem i_yX10_litres : Cond.instanceMethod yX10_litres ∈ gtbl := gt (i := 965) (by decide +kernel) rfl
theorem i_yX10_inNodes : Cond.instanceMethod yX10_inNodes ∈ gtbl := gt (i := 970) (by decide +kernel) rfl
theorem i_yX10_inCells : Cond.instanceMethod yX10_inCells ∈ gtbl := gt (i := 974) (by decide +kernel) rfl
theorem i_yX10_keeps : Cond.instanceMethod yX10_keeps ∈ gtbl := gt (i := 977) (by decide +kernel) rfl
theorem i_yX10_list : Cond.instanceMethod yX10_list ∈ gtbl := gt (i := 981) (by decide +kernel) rfl
theorem i_yX10_begin : Cond.instanceMethod yX10_begin ∈ gtbl := gt (i := 985) (by decide +kernel) rfl
theorem i_yX10_piece : Cond.instanceMethod yX10_piece ∈ gtbl := gt (i := 989) (by decide +kernel) rfl
theorem i_yX10_lay : Cond.instanceMethod yX10_lay ∈ gtbl := gt (i := 993) (by decide +kernel) rfl
theorem i_yX10_with : Cond.instanceMethod yX10_with ∈ gtbl := gt (i := 999) (by decide +kernel) rfl
theorem i_yX10_place : Cond.instanceMethod yX10_place ∈ gtbl := gt (i := 1003) (by decide +kernel) rfl
theorem i_yX10_laid : Cond.instanceMethod yX10_laid ∈ gtbl := gt (i := 1007) (by decide +kernel) rfl
theorem i_yX10_count : Cond.instanceMethod yX10_count ∈ gtbl := gt (i := 1012) (by decide +kernel) rfl
theorem t_yJ9_min_7cf53 : Cond.static yJ9_min_7cf53 ∈ gtbl := gt (i := 99) (by decide +kernel) rfl
theorem t_yJ9_max_7cf53 : Cond.static yJ9_max_7cf53 ∈ gtbl := gt (i := 102) (by decide +kernel) rfl
theorem t_yX9_isHeight : Cond.static yX9_isHeight ∈ gtbl := gt (i := 156) (by decide +kernel) rfl
theorem t_yX9_isWithin : Cond.static yX9_isWithin ∈ gtbl := gt (i := 161) (by decide +kernel) rfl
theorem t_yJ8_newLength_cabcc : Cond.static yJ8_newLength_cabcc ∈ gtbl := gt (i := 221) (by decide +kernel) rfl
theorem t_yJ8_hugeLength_7cf53 : Cond.static yJ8_hugeLength_7cf53 ∈ gtbl := gt (i := 226) (by decide +kernel) rfl
theorem t_yJ7_copyOf_1904c : Cond.static yJ7_copyOf_1904c ∈ gtbl := gt (i := 229) (by decide +kernel) rfl
theorem t_yJ7_copyOf_6403c : Cond.static yJ7_copyOf_6403c ∈ gtbl := gt (i := 248) (by decide +kernel) rfl
theorem t_yJ15_checkIndex_7cf53 : Cond.static yJ15_checkIndex_7cf53 ∈ gtbl := gt (i := 278) (by decide +kernel) rfl
theorem t_yJ3_checkIndex_8e157 : Cond.static yJ3_checkIndex_8e157 ∈ gtbl := gt (i := 281) (by decide +kernel) rfl
theorem t_yX9_isCell : Cond.static yX9_isCell ∈ gtbl := gt (i := 398) (by decide +kernel) rfl
theorem t_yJ9_min_f86c9 : Cond.static yJ9_min_f86c9 ∈ gtbl := gt (i := 460) (by decide +kernel) rfl
theorem t_yJ9_max_f86c9 : Cond.static yJ9_max_f86c9 ∈ gtbl := gt (i := 474) (by decide +kernel) rfl
theorem t_yL_cell : Cond.static yL_cell ∈ gtbl := gt (i := 673) (by decide +kernel) rfl
theorem t_yX10_is : Cond.static yX10_is ∈ gtbl := gt (i := 867) (by decide +kernel) rfl
theorem t_yX10_less : Cond.static yX10_less ∈ gtbl := gt (i := 923) (by decide +kernel) rfl
theorem s_yX9_node : Cond.selects RX9 yX9_node yX9_node ∈ gtbl := gt (i := 149) (by decide +kernel) rfl
theorem s_yJx4a65c_size_8abf5 : Cond.selects RJx4a65c yJx4a65c_size_8abf5 yJx4a65c_size_8abf5 ∈ gtbl := gt (i := 153) (by decide +kernel) rfl
theorem s_yJx4a65c_add_9ea2d : Cond.selects RJx4a65c yJx4a65c_add_9ea2d yJx4a65c_add_9ea2d ∈ gtbl := gt (i := 206) (by decide +kernel) rfl
theorem s_yX9_pipe : Cond.selects RX9 yX9_pipe yX9_pipe ∈ gtbl := gt (i := 261) (by decide +kernel) rfl
theorem s_yJx4a65c_get_915e3 : Cond.selects RJx4a65c yJx4a65c_get_915e3 yJx4a65c_get_915e3 ∈ gtbl := gt (i := 275) (by decide +kernel) rfl
theorem s_yJx4a65c_elementData_915e3 : Cond.selects RJx4a65c yJx4a65c_elementData_915e3 yJx4a65c_elementData_915e3 ∈ gtbl := gt (i := 285) (by decide +kernel) rfl
theorem s_yX9_area : Cond.selects RX9 yX9_area yX9_area ∈ gtbl := gt (i := 319) (by decide +kernel) rfl
theorem s_yX9_rain : Cond.selects RX9 yX9_rain yX9_rain ∈ gtbl := gt (i := 340) (by decide +kernel) rfl
theorem s_yX9_pump : Cond.selects RX9 yX9_pump yX9_pump ∈ gtbl := gt (i := 344) (by decide +kernel) rfl
theorem s_yX9_gate : Cond.selects RX9 yX9_gate yX9_gate ∈ gtbl := gt (i := 374) (by decide +kernel) rfl
theorem s_yX9_gully : Cond.selects RX9 yX9_gully yX9_gully ∈ gtbl := gt (i := 395) (by decide +kernel) rfl
theorem s_yX9_street : Cond.selects RX9 yX9_street yX9_street ∈ gtbl := gt (i := 419) (by decide +kernel) rfl
theorem s_yX9_run : Cond.selects RX9 yX9_run yX9_run ∈ gtbl := gt (i := 423) (by decide +kernel) rfl
theorem s_yX0_takeRain : Cond.selects RX0 yX0_takeRain yX0_takeRain ∈ gtbl := gt (i := 436) (by decide +kernel) rfl
theorem s_yX5_markLevel : Cond.selects RX5 yX5_markLevel yX5_markLevel ∈ gtbl := gt (i := 445) (by decide +kernel) rfl
theorem s_yX5_levelNow : Cond.selects RX5 yX5_levelNow yX5_levelNow ∈ gtbl := gt (i := 449) (by decide +kernel) rfl
theorem s_yX7_carry : Cond.selects RX7 yX7_carry yX7_carry ∈ gtbl := gt (i := 453) (by decide +kernel) rfl
theorem s_yX5_giveTo : Cond.selects RX5 yX5_giveTo yX5_giveTo ∈ gtbl := gt (i := 457) (by decide +kernel) rfl
theorem s_yX8_lift : Cond.selects RX8 yX8_lift yX8_lift ∈ gtbl := gt (i := 464) (by decide +kernel) rfl
theorem s_yX2_letOut : Cond.selects RX2 yX2_letOut yX2_letOut ∈ gtbl := gt (i := 470) (by decide +kernel) rfl
theorem s_yX3_drain : Cond.selects RX3 yX3_drain yX3_drain ∈ gtbl := gt (i := 482) (by decide +kernel) rfl
theorem s_yX5_spill : Cond.selects RX5 yX5_spill yX5_spill ∈ gtbl := gt (i := 492) (by decide +kernel) rfl
theorem s_yX9_told : Cond.selects RX9 yX9_told yX9_told ∈ gtbl := gt (i := 497) (by decide +kernel) rfl
theorem s_yX9_flow : Cond.selects RX9 yX9_flow yX9_flow ∈ gtbl := gt (i := 503) (by decide +kernel) rfl
theorem s_yX9_cell : Cond.selects RX9 yX9_cell yX9_cell ∈ gtbl := gt (i := 508) (by decide +kernel) rfl
theorem s_yX9_pumps : Cond.selects RX9 yX9_pumps yX9_pumps ∈ gtbl := gt (i := 513) (by decide +kernel) rfl
theorem s_yX9_litres : Cond.selects RX9 yX9_litres yX9_litres ∈ gtbl := gt (i := 517) (by decide +kernel) rfl
theorem s_yX9_keeps : Cond.selects RX9 yX9_keeps yX9_keeps ∈ gtbl := gt (i := 529) (by decide +kernel) rfl
theorem s_yX9_list : Cond.selects RX9 yX9_list yX9_list ∈ gtbl := gt (i := 533) (by decide +kernel) rfl
theorem s_yX4_addEntry : Cond.selects RX4 yX4_addEntry yX4_addEntry ∈ gtbl := gt (i := 537) (by decide +kernel) rfl
theorem s_yX9_begin : Cond.selects RX9 yX9_begin yX9_begin ∈ gtbl := gt (i := 559) (by decide +kernel) rfl
theorem s_yX4_beginAnew : Cond.selects RX4 yX4_beginAnew yX4_beginAnew ∈ gtbl := gt (i := 563) (by decide +kernel) rfl
theorem s_yX9_piece : Cond.selects RX9 yX9_piece yX9_piece ∈ gtbl := gt (i := 567) (by decide +kernel) rfl
theorem s_yX4_addPiece : Cond.selects RX4 yX4_addPiece yX4_addPiece ∈ gtbl := gt (i := 571) (by decide +kernel) rfl
theorem s_yX9_lay : Cond.selects RX9 yX9_lay yX9_lay ∈ gtbl := gt (i := 604) (by decide +kernel) rfl
theorem s_yX4_layBest : Cond.selects RX4 yX4_layBest yX4_layBest ∈ gtbl := gt (i := 608) (by decide +kernel) rfl
theorem s_yJx4a65c_isEmpty_aae02 : Cond.selects RJx4a65c yJx4a65c_isEmpty_aae02 yJx4a65c_isEmpty_aae02 ∈ gtbl := gt (i := 613) (by decide +kernel) rfl
theorem s_yX9_laid : Cond.selects RX9 yX9_laid yX9_laid ∈ gtbl := gt (i := 660) (by decide +kernel) rfl
theorem s_yX4_tellLaid : Cond.selects RX4 yX4_tellLaid yX4_tellLaid ∈ gtbl := gt (i := 664) (by decide +kernel) rfl
theorem s_yX9_count : Cond.selects RX9 yX9_count yX9_count ∈ gtbl := gt (i := 670) (by decide +kernel) rfl
theorem s_yX10_node : Cond.selects RX10 yX10_node yX10_node ∈ gtbl := gt (i := 862) (by decide +kernel) rfl
theorem s_yX10_pipe : Cond.selects RX10 yX10_pipe yX10_pipe ∈ gtbl := gt (i := 871) (by decide +kernel) rfl
theorem s_yX10_area : Cond.selects RX10 yX10_area yX10_area ∈ gtbl := gt (i := 879) (by decide +kernel) rfl
theorem s_yX10_rain : Cond.selects RX10 yX10_rain yX10_rain ∈ gtbl := gt (i := 884) (by decide +kernel) rfl
theorem s_yX10_pump : Cond.selects RX10 yX10_pump yX10_pump ∈ gtbl := gt (i := 888) (by decide +kernel) rfl
theorem s_yX10_gate : Cond.selects RX10 yX10_gate yX10_gate ∈ gtbl := gt (i := 892) (by decide +kernel) rfl
theorem s_yX10_gully : Cond.selects RX10 yX10_gully yX10_gully ∈ gtbl := gt (i := 897) (by decide +kernel) rfl
theorem s_yX10_street : Cond.selects RX10 yX10_street yX10_street ∈ gtbl := gt (i := 901) (by decide +kernel) rfl
theorem s_yX10_run : Cond.selects RX10 yX10_run yX10_run ∈ gtbl := gt (i := 905) (by decide +kernel) rfl
theorem s_yX10_told : Cond.selects RX10 yX10_told yX10_told ∈ gtbl := gt (i := 947) (by decide +kernel) rfl
theorem s_yX10_flow : Cond.selects RX10 yX10_flow yX10_flow ∈ gtbl := gt (i := 952) (by decide +kernel) rfl
theorem s_yX10_cell : Cond.selects RX10 yX10_cell yX10_cell ∈ gtbl := gt (i := 957) (by decide +kernel) rfl
theorem s_yX10_pumps : Cond.selects RX10 yX10_pumps yX10_pumps ∈ gtbl := gt (i := 962) (by decide +kernel) rfl
theorem s_yX10_litres : Cond.selects RX10 yX10_litres yX10_litres ∈ gtbl := gt (i := 966) (by decide +kernel) rfl
theorem s_yX10_keeps : Cond.selects RX10 yX10_keeps yX10_keeps ∈ gtbl := gt (i := 978) (by decide +kernel) rfl
theorem s_yX10_list : Cond.selects RX10 yX10_list yX10_list ∈ gtbl := gt (i := 982) (by decide +kernel) rfl
theorem s_yX10_begin : Cond.selects RX10 yX10_begin yX10_begin ∈ gtbl := gt (i := 986) (by decide +kernel) rfl
theorem s_yX10_piece : Cond.selects RX10 yX10_piece yX10_piece ∈ gtbl := gt (i := 990) (by decide +kernel) rfl
theorem s_yX10_lay : Cond.selects RX10 yX10_lay yX10_lay ∈ gtbl := gt (i := 994) (by decide +kernel) rfl
theorem s_yX10_laid : Cond.selects RX10 yX10_laid yX10_laid ∈ gtbl := gt (i := 1008) (by decide +kernel) rfl
theorem s_yX10_count : Cond.selects RX10 yX10_count yX10_count ∈ gtbl := gt (i := 1013) (by decide +kernel) rfl
theorem s_yJx4a65c_add_72be8 : Cond.selects RJx4a65c yJx4a65c_add_72be8 yJx4a65c_add_72be8 ∈ gtbl := gtp (i := 0) (by decide +kernel) rfl
theorem s_yJx4a65c_grow_d5877 : Cond.selects RJx4a65c yJx4a65c_grow_d5877 yJx4a65c_grow_d5877 ∈ gtbl := gtp (i := 1) (by decide +kernel) rfl
theorem s_yJx4a65c_grow_92f84 : Cond.selects RJx4a65c yJx4a65c_grow_92f84 yJx4a65c_grow_92f84 ∈ gtbl := gtp (i := 2) (by decide +kernel) rfl
theorem s_yX9_areTwoNodes : Cond.selects RX9 yX9_areTwoNodes yX9_areTwoNodes ∈ gtbl := gtp (i := 3) (by decide +kernel) rfl
theorem s_yX9_isNode : Cond.selects RX9 yX9_isNode yX9_isNode ∈ gtbl := gtp (i := 4) (by decide +kernel) rfl
theorem s_yX9_passSecond : Cond.selects RX9 yX9_passSecond yX9_passSecond ∈ gtbl := gtp (i := 5) (by decide +kernel) rfl
theorem s_yX9_rainOnAreas : Cond.selects RX9 yX9_rainOnAreas yX9_rainOnAreas ∈ gtbl := gtp (i := 6) (by decide +kernel) rfl
theorem s_yX9_carryByPipes : Cond.selects RX9 yX9_carryByPipes yX9_carryByPipes ∈ gtbl := gtp (i := 7) (by decide +kernel) rfl
theorem s_yX9_drainCells : Cond.selects RX9 yX9_drainCells yX9_drainCells ∈ gtbl := gtp (i := 8) (by decide +kernel) rfl
theorem s_yX9_spillNodes : Cond.selects RX9 yX9_spillNodes yX9_spillNodes ∈ gtbl := gtp (i := 9) (by decide +kernel) rfl
theorem s_yX9_litresInNodes : Cond.selects RX9 yX9_litresInNodes yX9_litresInNodes ∈ gtbl := gtp (i := 10) (by decide +kernel) rfl
theorem s_yX9_litresInCells : Cond.selects RX9 yX9_litresInCells yX9_litresInCells ∈ gtbl := gtp (i := 11) (by decide +kernel) rfl
theorem s_yX4_weighPiece : Cond.selects RX4 yX4_weighPiece yX4_weighPiece ∈ gtbl := gtp (i := 12) (by decide +kernel) rfl
theorem s_yX4_leastFall : Cond.selects RX4 yX4_leastFall yX4_leastFall ∈ gtbl := gtp (i := 13) (by decide +kernel) rfl
theorem s_yX4_weighEnds : Cond.selects RX4 yX4_weighEnds yX4_weighEnds ∈ gtbl := gtp (i := 14) (by decide +kernel) rfl
theorem s_yX4_costFrom : Cond.selects RX4 yX4_costFrom yX4_costFrom ∈ gtbl := gtp (i := 15) (by decide +kernel) rfl
theorem s_yX4_cheapestEnd : Cond.selects RX4 yX4_cheapestEnd yX4_cheapestEnd ∈ gtbl := gtp (i := 16) (by decide +kernel) rfl
theorem s_yX4_isCoveredAtBegin : Cond.selects RX4 yX4_isCoveredAtBegin yX4_isCoveredAtBegin ∈ gtbl := gtp (i := 17) (by decide +kernel) rfl
theorem s_yX4_followBest : Cond.selects RX4 yX4_followBest yX4_followBest ∈ gtbl := gtp (i := 18) (by decide +kernel) rfl
theorem s_yX4_layPiece : Cond.selects RX4 yX4_layPiece yX4_layPiece ∈ gtbl := gtp (i := 19) (by decide +kernel) rfl
theorem s_yX4_fallThatCosts : Cond.selects RX4 yX4_fallThatCosts yX4_fallThatCosts ∈ gtbl := gtp (i := 20) (by decide +kernel) rfl
theorem s_yX10_isNode : Cond.selects RX10 yX10_isNode yX10_isNode ∈ gtbl := gtp (i := 21) (by decide +kernel) rfl
theorem s_yX10_rainOf : Cond.selects RX10 yX10_rainOf yX10_rainOf ∈ gtbl := gtp (i := 22) (by decide +kernel) rfl
theorem s_yX10_levelOf : Cond.selects RX10 yX10_levelOf yX10_levelOf ∈ gtbl := gtp (i := 23) (by decide +kernel) rfl
theorem s_yX10_flowOf : Cond.selects RX10 yX10_flowOf yX10_flowOf ∈ gtbl := gtp (i := 24) (by decide +kernel) rfl
theorem s_yX10_pumpOf : Cond.selects RX10 yX10_pumpOf yX10_pumpOf ∈ gtbl := gtp (i := 25) (by decide +kernel) rfl
theorem s_yX10_gateOf : Cond.selects RX10 yX10_gateOf yX10_gateOf ∈ gtbl := gtp (i := 26) (by decide +kernel) rfl
theorem s_yX10_gullyOf : Cond.selects RX10 yX10_gullyOf yX10_gullyOf ∈ gtbl := gtp (i := 27) (by decide +kernel) rfl
theorem s_yX10_fullOf : Cond.selects RX10 yX10_fullOf yX10_fullOf ∈ gtbl := gtp (i := 28) (by decide +kernel) rfl
theorem s_yX10_nodeOf : Cond.selects RX10 yX10_nodeOf yX10_nodeOf ∈ gtbl := gtp (i := 29) (by decide +kernel) rfl
theorem s_yX10_inNodes : Cond.selects RX10 yX10_inNodes yX10_inNodes ∈ gtbl := gtp (i := 30) (by decide +kernel) rfl
theorem s_yX10_inCells : Cond.selects RX10 yX10_inCells yX10_inCells ∈ gtbl := gtp (i := 31) (by decide +kernel) rfl
theorem s_yX10_with : Cond.selects RX10 yX10_with yX10_with ∈ gtbl := gtp (i := 32) (by decide +kernel) rfl
theorem s_yX10_place : Cond.selects RX10 yX10_place yX10_place ∈ gtbl := gtp (i := 33) (by decide +kernel) rfl
abbrev mX9_init : Mx := (yX9_init, cX9_init, 2, none)
theorem wX9_init : CWd mX9_init 1 := ⟨gt (i := 25) (by decide +kernel) rfl, inX9, by decide +kernel, by decide⟩
theorem c_objectInit : Cond.code objectInit ⟨#[0xb1]⟩ 1 none ∈ gtbl := gt (i := 28) (by decide +kernel) rfl
abbrev mJx4a65c_init_da8c8 : Mx := (yJx4a65c_init_da8c8, cJx4a65c_init_da8c8, 1, none)
theorem wJx4a65c_init_da8c8 : CWd mJx4a65c_init_da8c8 0 := ⟨gt (i := 33) (by decide +kernel) rfl, inJx4a65c, by decide +kernel, by decide⟩
abbrev mJxc12de_init_da8c8 : Mx := (yJxc12de_init_da8c8, cJxc12de_init_da8c8, 1, none)
theorem wJxc12de_init_da8c8 : CWd mJxc12de_init_da8c8 0 := ⟨gt (i := 36) (by decide +kernel) rfl, inJxc12de, by decide +kernel, by decide⟩
abbrev mJxa1e45_init_da8c8 : Mx := (yJxa1e45_init_da8c8, cJxa1e45_init_da8c8, 1, none)
theorem wJxa1e45_init_da8c8 : CWd mJxa1e45_init_da8c8 0 := ⟨gt (i := 39) (by decide +kernel) rfl, inJxa1e45, by decide +kernel, by decide⟩
abbrev mX4_init : Mx := (yX4_init, cX4_init, 1, none)
theorem wX4_init : CWd mX4_init 0 := ⟨gt (i := 59) (by decide +kernel) rfl, inX4, by decide +kernel, by decide⟩
abbrev mJ9_min_7cf53 : Mx := (yJ9_min_7cf53, cJ9_min_7cf53, 2, (some FieldType.int))
theorem wJ9_min_7cf53 : CWd mJ9_min_7cf53 2 := ⟨gt (i := 100) (by decide +kernel) rfl, inJ9, by decide +kernel, by decide⟩
abbrev mJ9_max_7cf53 : Mx := (yJ9_max_7cf53, cJ9_max_7cf53, 2, (some FieldType.int))
theorem wJ9_max_7cf53 : CWd mJ9_max_7cf53 2 := ⟨gt (i := 103) (by decide +kernel) rfl, inJ9, by decide +kernel, by decide⟩
abbrev mX9_node : Mx := (yX9_node, cX9_node, 4, (some FieldType.int))
theorem wX9_node : CWd mX9_node 3 := ⟨gt (i := 150) (by decide +kernel) rfl, inX9, by decide +kernel, by decide⟩
abbrev mJx4a65c_size_8abf5 : Mx := (yJx4a65c_size_8abf5, cJx4a65c_size_8abf5, 1, (some FieldType.int))
theorem wJx4a65c_size_8abf5 : CWd mJx4a65c_size_8abf5 0 := ⟨gt (i := 154) (by decide +kernel) rfl, inJx4a65c, by decide +kernel, by decide⟩
abbrev mX9_isHeight : Mx := (yX9_isHeight, cX9_isHeight, 1, (some FieldType.boolean))
theorem wX9_isHeight : CWd mX9_isHeight 1 := ⟨gt (i := 157) (by decide +kernel) rfl, inX9, by decide +kernel, by decide⟩
abbrev mX9_isWithin : Mx := (yX9_isWithin, cX9_isWithin, 3, (some FieldType.boolean))
theorem wX9_isWithin : CWd mX9_isWithin 3 := ⟨gt (i := 162) (by decide +kernel) rfl, inX9, by decide +kernel, by decide⟩
abbrev mX5_init : Mx := (yX5_init, cX5_init, 4, none)
theorem wX5_init : CWd mX5_init 3 := ⟨gt (i := 167) (by decide +kernel) rfl, inX5, by decide +kernel, by decide⟩
abbrev mJx4a65c_add_9ea2d : Mx := (yJx4a65c_add_9ea2d, cJx4a65c_add_9ea2d, 2, (some FieldType.boolean))
theorem wJx4a65c_add_9ea2d : CWd mJx4a65c_add_9ea2d 1 := ⟨gt (i := 207) (by decide +kernel) rfl, inJx4a65c, by decide +kernel, by decide⟩
abbrev mJx4a65c_add_72be8 : Mx := (yJx4a65c_add_72be8, cJx4a65c_add_72be8, 4, none)
theorem wJx4a65c_add_72be8 : CWd mJx4a65c_add_72be8 3 := ⟨gt (i := 211) (by decide +kernel) rfl, inJx4a65c, by decide +kernel, by decide⟩
abbrev mJx4a65c_grow_d5877 : Mx := (yJx4a65c_grow_d5877, cJx4a65c_grow_d5877, 1, (some (FieldType.array (FieldType.object "java/lang/Object"))))
theorem wJx4a65c_grow_d5877 : CWd mJx4a65c_grow_d5877 0 := ⟨gt (i := 215) (by decide +kernel) rfl, inJx4a65c, by decide +kernel, by decide⟩
abbrev mJx4a65c_grow_92f84 : Mx := (yJx4a65c_grow_92f84, cJx4a65c_grow_92f84, 4, (some (FieldType.array (FieldType.object "java/lang/Object"))))
theorem wJx4a65c_grow_92f84 : CWd mJx4a65c_grow_92f84 1 := ⟨gt (i := 219) (by decide +kernel) rfl, inJx4a65c, by decide +kernel, by decide⟩
abbrev mJ8_newLength_cabcc : Mx := (yJ8_newLength_cabcc, cJ8_newLength_cabcc, 4, (some FieldType.int))
theorem wJ8_newLength_cabcc : CWd mJ8_newLength_cabcc 3 := ⟨gt (i := 222) (by decide +kernel) rfl, inJ8, by decide +kernel, by decide⟩
abbrev mJ8_hugeLength_7cf53 : Mx := (yJ8_hugeLength_7cf53, cJ8_hugeLength_7cf53, 3, (some FieldType.int))
theorem wJ8_hugeLength_7cf53 : CWd mJ8_hugeLength_7cf53 2 := ⟨gt (i := 227) (by decide +kernel) rfl, inJ8, by decide +kernel, by decide⟩
abbrev mJ7_copyOf_1904c : Mx := (yJ7_copyOf_1904c, cJ7_copyOf_1904c, 2, (some (FieldType.array (FieldType.object "java/lang/Object"))))
theorem wJ7_copyOf_1904c : CWd mJ7_copyOf_1904c 2 := ⟨gt (i := 230) (by decide +kernel) rfl, inJ7, by decide +kernel, by decide⟩
abbrev mJ7_copyOf_6403c : Mx := (yJ7_copyOf_6403c, cJ7_copyOf_6403c, 4, (some (FieldType.array (FieldType.object "java/lang/Object"))))
theorem wJ7_copyOf_6403c : CWd mJ7_copyOf_6403c 3 := ⟨gt (i := 249) (by decide +kernel) rfl, inJ7, by decide +kernel, by decide⟩
abbrev mX9_pipe : Mx := (yX9_pipe, cX9_pipe, 5, (some FieldType.int))
theorem wX9_pipe : CWd mX9_pipe 4 := ⟨gt (i := 262) (by decide +kernel) rfl, inX9, by decide +kernel, by decide⟩
abbrev mX9_areTwoNodes : Mx := (yX9_areTwoNodes, cX9_areTwoNodes, 3, (some FieldType.boolean))
theorem wX9_areTwoNodes : CWd mX9_areTwoNodes 2 := ⟨gt (i := 266) (by decide +kernel) rfl, inX9, by decide +kernel, by decide⟩
abbrev mX9_isNode : Mx := (yX9_isNode, cX9_isNode, 2, (some FieldType.boolean))
theorem wX9_isNode : CWd mX9_isNode 1 := ⟨gt (i := 270) (by decide +kernel) rfl, inX9, by decide +kernel, by decide⟩
abbrev mJx4a65c_get_915e3 : Mx := (yJx4a65c_get_915e3, cJx4a65c_get_915e3, 2, (some (FieldType.object "java/lang/Object")))
theorem wJx4a65c_get_915e3 : CWd mJx4a65c_get_915e3 1 := ⟨gt (i := 276) (by decide +kernel) rfl, inJx4a65c, by decide +kernel, by decide⟩
abbrev mJ15_checkIndex_7cf53 : Mx := (yJ15_checkIndex_7cf53, cJ15_checkIndex_7cf53, 2, (some FieldType.int))
theorem wJ15_checkIndex_7cf53 : CWd mJ15_checkIndex_7cf53 2 := ⟨gt (i := 279) (by decide +kernel) rfl, inJ15, by decide +kernel, by decide⟩
abbrev mJ3_checkIndex_8e157 : Mx := (yJ3_checkIndex_8e157, cJ3_checkIndex_8e157, 3, (some FieldType.int))
theorem wJ3_checkIndex_8e157 : CWd mJ3_checkIndex_8e157 3 := ⟨gt (i := 282) (by decide +kernel) rfl, inJ3, by decide +kernel, by decide⟩
abbrev mJx4a65c_elementData_915e3 : Mx := (yJx4a65c_elementData_915e3, cJx4a65c_elementData_915e3, 2, (some (FieldType.object "java/lang/Object")))
theorem wJx4a65c_elementData_915e3 : CWd mJx4a65c_elementData_915e3 1 := ⟨gt (i := 286) (by decide +kernel) rfl, inJx4a65c, by decide +kernel, by decide⟩
abbrev mX7_init : Mx := (yX7_init, cX7_init, 5, none)
theorem wX7_init : CWd mX7_init 4 := ⟨gt (i := 289) (by decide +kernel) rfl, inX7, by decide +kernel, by decide⟩
abbrev mX9_area : Mx := (yX9_area, cX9_area, 4, (some FieldType.int))
theorem wX9_area : CWd mX9_area 3 := ⟨gt (i := 320) (by decide +kernel) rfl, inX9, by decide +kernel, by decide⟩
abbrev mX0_init : Mx := (yX0_init, cX0_init, 4, none)
theorem wX0_init : CWd mX0_init 3 := ⟨gt (i := 326) (by decide +kernel) rfl, inX0, by decide +kernel, by decide⟩
abbrev mX9_rain : Mx := (yX9_rain, cX9_rain, 4, (some FieldType.int))
theorem wX9_rain : CWd mX9_rain 2 := ⟨gt (i := 341) (by decide +kernel) rfl, inX9, by decide +kernel, by decide⟩
abbrev mX9_pump : Mx := (yX9_pump, cX9_pump, 6, (some FieldType.int))
theorem wX9_pump : CWd mX9_pump 5 := ⟨gt (i := 345) (by decide +kernel) rfl, inX9, by decide +kernel, by decide⟩
abbrev mX8_init : Mx := (yX8_init, cX8_init, 6, none)
theorem wX8_init : CWd mX8_init 5 := ⟨gt (i := 350) (by decide +kernel) rfl, inX8, by decide +kernel, by decide⟩
abbrev mX9_gate : Mx := (yX9_gate, cX9_gate, 4, (some FieldType.int))
theorem wX9_gate : CWd mX9_gate 3 := ⟨gt (i := 375) (by decide +kernel) rfl, inX9, by decide +kernel, by decide⟩
abbrev mX2_init : Mx := (yX2_init, cX2_init, 4, none)
theorem wX2_init : CWd mX2_init 3 := ⟨gt (i := 381) (by decide +kernel) rfl, inX2, by decide +kernel, by decide⟩
abbrev mX9_gully : Mx := (yX9_gully, cX9_gully, 4, (some FieldType.int))
theorem wX9_gully : CWd mX9_gully 3 := ⟨gt (i := 396) (by decide +kernel) rfl, inX9, by decide +kernel, by decide⟩
abbrev mX9_isCell : Mx := (yX9_isCell, cX9_isCell, 1, (some FieldType.boolean))
theorem wX9_isCell : CWd mX9_isCell 1 := ⟨gt (i := 399) (by decide +kernel) rfl, inX9, by decide +kernel, by decide⟩
abbrev mX3_init : Mx := (yX3_init, cX3_init, 4, none)
theorem wX3_init : CWd mX3_init 3 := ⟨gt (i := 404) (by decide +kernel) rfl, inX3, by decide +kernel, by decide⟩
abbrev mX9_street : Mx := (yX9_street, cX9_street, 5, (some FieldType.int))
theorem wX9_street : CWd mX9_street 2 := ⟨gt (i := 420) (by decide +kernel) rfl, inX9, by decide +kernel, by decide⟩
abbrev mX9_run : Mx := (yX9_run, cX9_run, 3, (some FieldType.int))
theorem wX9_run : CWd mX9_run 1 := ⟨gt (i := 424) (by decide +kernel) rfl, inX9, by decide +kernel, by decide⟩
abbrev mX9_passSecond : Mx := (yX9_passSecond, cX9_passSecond, 2, none)
theorem wX9_passSecond : CWd mX9_passSecond 0 := ⟨gt (i := 429) (by decide +kernel) rfl, inX9, by decide +kernel, by decide⟩
abbrev mX9_rainOnAreas : Mx := (yX9_rainOnAreas, cX9_rainOnAreas, 3, none)
theorem wX9_rainOnAreas : CWd mX9_rainOnAreas 0 := ⟨gt (i := 433) (by decide +kernel) rfl, inX9, by decide +kernel, by decide⟩
abbrev mX0_takeRain : Mx := (yX0_takeRain, cX0_takeRain, 4, (some FieldType.long))
theorem wX0_takeRain : CWd mX0_takeRain 1 := ⟨gt (i := 437) (by decide +kernel) rfl, inX0, by decide +kernel, by decide⟩
abbrev mX9_carryByPipes : Mx := (yX9_carryByPipes, cX9_carryByPipes, 2, none)
theorem wX9_carryByPipes : CWd mX9_carryByPipes 0 := ⟨gt (i := 442) (by decide +kernel) rfl, inX9, by decide +kernel, by decide⟩
abbrev mX5_markLevel : Mx := (yX5_markLevel, cX5_markLevel, 1, none)
theorem wX5_markLevel : CWd mX5_markLevel 0 := ⟨gt (i := 446) (by decide +kernel) rfl, inX5, by decide +kernel, by decide⟩
abbrev mX5_levelNow : Mx := (yX5_levelNow, cX5_levelNow, 1, (some FieldType.long))
theorem wX5_levelNow : CWd mX5_levelNow 0 := ⟨gt (i := 450) (by decide +kernel) rfl, inX5, by decide +kernel, by decide⟩
abbrev mX7_carry : Mx := (yX7_carry, cX7_carry, 3, none)
theorem wX7_carry : CWd mX7_carry 0 := ⟨gt (i := 454) (by decide +kernel) rfl, inX7, by decide +kernel, by decide⟩
abbrev mX5_giveTo : Mx := (yX5_giveTo, cX5_giveTo, 6, (some FieldType.long))
theorem wX5_giveTo : CWd mX5_giveTo 2 := ⟨gt (i := 458) (by decide +kernel) rfl, inX5, by decide +kernel, by decide⟩
abbrev mJ9_min_f86c9 : Mx := (yJ9_min_f86c9, cJ9_min_f86c9, 4, (some FieldType.long))
theorem wJ9_min_f86c9 : CWd mJ9_min_f86c9 2 := ⟨gt (i := 461) (by decide +kernel) rfl, inJ9, by decide +kernel, by decide⟩
abbrev mX8_lift : Mx := (yX8_lift, cX8_lift, 3, none)
theorem wX8_lift : CWd mX8_lift 0 := ⟨gt (i := 465) (by decide +kernel) rfl, inX8, by decide +kernel, by decide⟩
abbrev mX2_letOut : Mx := (yX2_letOut, cX2_letOut, 3, (some FieldType.long))
theorem wX2_letOut : CWd mX2_letOut 0 := ⟨gt (i := 471) (by decide +kernel) rfl, inX2, by decide +kernel, by decide⟩
abbrev mJ9_max_f86c9 : Mx := (yJ9_max_f86c9, cJ9_max_f86c9, 4, (some FieldType.long))
theorem wJ9_max_f86c9 : CWd mJ9_max_f86c9 2 := ⟨gt (i := 475) (by decide +kernel) rfl, inJ9, by decide +kernel, by decide⟩
abbrev mX9_drainCells : Mx := (yX9_drainCells, cX9_drainCells, 3, none)
theorem wX9_drainCells : CWd mX9_drainCells 0 := ⟨gt (i := 479) (by decide +kernel) rfl, inX9, by decide +kernel, by decide⟩
abbrev mX3_drain : Mx := (yX3_drain, cX3_drain, 7, (some FieldType.long))
theorem wX3_drain : CWd mX3_drain 1 := ⟨gt (i := 483) (by decide +kernel) rfl, inX3, by decide +kernel, by decide⟩
abbrev mX9_spillNodes : Mx := (yX9_spillNodes, cX9_spillNodes, 5, none)
theorem wX9_spillNodes : CWd mX9_spillNodes 0 := ⟨gt (i := 489) (by decide +kernel) rfl, inX9, by decide +kernel, by decide⟩
abbrev mX5_spill : Mx := (yX5_spill, cX5_spill, 3, (some FieldType.long))
theorem wX5_spill : CWd mX5_spill 0 := ⟨gt (i := 493) (by decide +kernel) rfl, inX5, by decide +kernel, by decide⟩
abbrev mX9_told : Mx := (yX9_told, cX9_told, 4, (some FieldType.long))
theorem wX9_told : CWd mX9_told 2 := ⟨gt (i := 498) (by decide +kernel) rfl, inX9, by decide +kernel, by decide⟩
abbrev mX9_flow : Mx := (yX9_flow, cX9_flow, 4, (some FieldType.long))
theorem wX9_flow : CWd mX9_flow 2 := ⟨gt (i := 504) (by decide +kernel) rfl, inX9, by decide +kernel, by decide⟩
abbrev mX9_cell : Mx := (yX9_cell, cX9_cell, 2, (some FieldType.long))
theorem wX9_cell : CWd mX9_cell 1 := ⟨gt (i := 509) (by decide +kernel) rfl, inX9, by decide +kernel, by decide⟩
abbrev mX9_pumps : Mx := (yX9_pumps, cX9_pumps, 2, (some FieldType.int))
theorem wX9_pumps : CWd mX9_pumps 1 := ⟨gt (i := 514) (by decide +kernel) rfl, inX9, by decide +kernel, by decide⟩
abbrev mX9_litres : Mx := (yX9_litres, cX9_litres, 2, (some FieldType.long))
theorem wX9_litres : CWd mX9_litres 1 := ⟨gt (i := 518) (by decide +kernel) rfl, inX9, by decide +kernel, by decide⟩
abbrev mX9_litresInNodes : Mx := (yX9_litresInNodes, cX9_litresInNodes, 4, (some FieldType.long))
theorem wX9_litresInNodes : CWd mX9_litresInNodes 0 := ⟨gt (i := 522) (by decide +kernel) rfl, inX9, by decide +kernel, by decide⟩
abbrev mX9_litresInCells : Mx := (yX9_litresInCells, cX9_litresInCells, 4, (some FieldType.long))
theorem wX9_litresInCells : CWd mX9_litresInCells 0 := ⟨gt (i := 526) (by decide +kernel) rfl, inX9, by decide +kernel, by decide⟩
abbrev mX9_keeps : Mx := (yX9_keeps, cX9_keeps, 1, (some FieldType.boolean))
theorem wX9_keeps : CWd mX9_keeps 0 := ⟨gt (i := 530) (by decide +kernel) rfl, inX9, by decide +kernel, by decide⟩
abbrev mX9_list : Mx := (yX9_list, cX9_list, 3, (some FieldType.int))
theorem wX9_list : CWd mX9_list 2 := ⟨gt (i := 534) (by decide +kernel) rfl, inX9, by decide +kernel, by decide⟩
abbrev mX4_addEntry : Mx := (yX4_addEntry, cX4_addEntry, 4, (some FieldType.int))
theorem wX4_addEntry : CWd mX4_addEntry 2 := ⟨gt (i := 538) (by decide +kernel) rfl, inX4, by decide +kernel, by decide⟩
abbrev mX1_init : Mx := (yX1_init, cX1_init, 3, none)
theorem wX1_init : CWd mX1_init 2 := ⟨gt (i := 545) (by decide +kernel) rfl, inX1, by decide +kernel, by decide⟩
abbrev mX9_begin : Mx := (yX9_begin, cX9_begin, 3, (some FieldType.boolean))
theorem wX9_begin : CWd mX9_begin 2 := ⟨gt (i := 560) (by decide +kernel) rfl, inX9, by decide +kernel, by decide⟩
abbrev mX4_beginAnew : Mx := (yX4_beginAnew, cX4_beginAnew, 3, none)
theorem wX4_beginAnew : CWd mX4_beginAnew 2 := ⟨gt (i := 564) (by decide +kernel) rfl, inX4, by decide +kernel, by decide⟩
abbrev mX9_piece : Mx := (yX9_piece, cX9_piece, 4, (some FieldType.int))
theorem wX9_piece : CWd mX9_piece 3 := ⟨gt (i := 568) (by decide +kernel) rfl, inX9, by decide +kernel, by decide⟩
abbrev mX4_addPiece : Mx := (yX4_addPiece, cX4_addPiece, 5, (some FieldType.int))
theorem wX4_addPiece : CWd mX4_addPiece 3 := ⟨gt (i := 572) (by decide +kernel) rfl, inX4, by decide +kernel, by decide⟩
abbrev mX6_init : Mx := (yX6_init, cX6_init, 2, none)
theorem wX6_init : CWd mX6_init 1 := ⟨gt (i := 577) (by decide +kernel) rfl, inX6, by decide +kernel, by decide⟩
abbrev mX9_lay : Mx := (yX9_lay, cX9_lay, 3, (some FieldType.long))
theorem wX9_lay : CWd mX9_lay 2 := ⟨gt (i := 605) (by decide +kernel) rfl, inX9, by decide +kernel, by decide⟩
abbrev mX4_layBest : Mx := (yX4_layBest, cX4_layBest, 5, (some FieldType.long))
theorem wX4_layBest : CWd mX4_layBest 2 := ⟨gt (i := 609) (by decide +kernel) rfl, inX4, by decide +kernel, by decide⟩
abbrev mJx4a65c_isEmpty_aae02 : Mx := (yJx4a65c_isEmpty_aae02, cJx4a65c_isEmpty_aae02, 1, (some FieldType.boolean))
theorem wJx4a65c_isEmpty_aae02 : CWd mJx4a65c_isEmpty_aae02 0 := ⟨gt (i := 614) (by decide +kernel) rfl, inJx4a65c, by decide +kernel, by decide⟩
abbrev mX4_weighPiece : Mx := (yX4_weighPiece, cX4_weighPiece, 11, none)
theorem wX4_weighPiece : CWd mX4_weighPiece 1 := ⟨gt (i := 619) (by decide +kernel) rfl, inX4, by decide +kernel, by decide⟩
abbrev mX4_leastFall : Mx := (yX4_leastFall, cX4_leastFall, 12, (some FieldType.int))
theorem wX4_leastFall : CWd mX4_leastFall 2 := ⟨gt (i := 623) (by decide +kernel) rfl, inX4, by decide +kernel, by decide⟩
abbrev mX4_weighEnds : Mx := (yX4_weighEnds, cX4_weighEnds, 5, none)
theorem wX4_weighEnds : CWd mX4_weighEnds 2 := ⟨gt (i := 631) (by decide +kernel) rfl, inX4, by decide +kernel, by decide⟩
abbrev mX4_costFrom : Mx := (yX4_costFrom, cX4_costFrom, 10, (some FieldType.long))
theorem wX4_costFrom : CWd mX4_costFrom 3 := ⟨gt (i := 635) (by decide +kernel) rfl, inX4, by decide +kernel, by decide⟩
abbrev mX4_cheapestEnd : Mx := (yX4_cheapestEnd, cX4_cheapestEnd, 6, (some FieldType.int))
theorem wX4_cheapestEnd : CWd mX4_cheapestEnd 3 := ⟨gt (i := 641) (by decide +kernel) rfl, inX4, by decide +kernel, by decide⟩
abbrev mX4_isCoveredAtBegin : Mx := (yX4_isCoveredAtBegin, cX4_isCoveredAtBegin, 5, (some FieldType.boolean))
theorem wX4_isCoveredAtBegin : CWd mX4_isCoveredAtBegin 3 := ⟨gt (i := 645) (by decide +kernel) rfl, inX4, by decide +kernel, by decide⟩
abbrev mX4_followBest : Mx := (yX4_followBest, cX4_followBest, 4, none)
theorem wX4_followBest : CWd mX4_followBest 0 := ⟨gt (i := 649) (by decide +kernel) rfl, inX4, by decide +kernel, by decide⟩
abbrev mX4_layPiece : Mx := (yX4_layPiece, cX4_layPiece, 9, none)
theorem wX4_layPiece : CWd mX4_layPiece 3 := ⟨gt (i := 653) (by decide +kernel) rfl, inX4, by decide +kernel, by decide⟩
abbrev mX4_fallThatCosts : Mx := (yX4_fallThatCosts, cX4_fallThatCosts, 7, (some FieldType.int))
theorem wX4_fallThatCosts : CWd mX4_fallThatCosts 4 := ⟨gt (i := 657) (by decide +kernel) rfl, inX4, by decide +kernel, by decide⟩
abbrev mX9_laid : Mx := (yX9_laid, cX9_laid, 3, (some FieldType.int))
theorem wX9_laid : CWd mX9_laid 2 := ⟨gt (i := 661) (by decide +kernel) rfl, inX9, by decide +kernel, by decide⟩
abbrev mX4_tellLaid : Mx := (yX4_tellLaid, cX4_tellLaid, 4, (some FieldType.int))
theorem wX4_tellLaid : CWd mX4_tellLaid 2 := ⟨gt (i := 665) (by decide +kernel) rfl, inX4, by decide +kernel, by decide⟩
abbrev mX9_count : Mx := (yX9_count, cX9_count, 2, (some FieldType.int))
theorem wX9_count : CWd mX9_count 1 := ⟨gt (i := 671) (by decide +kernel) rfl, inX9, by decide +kernel, by decide⟩
abbrev mL_cell : Mx := (yL_cell, cL_cell, 2, (some FieldType.int))
theorem wL_cell : CWd mL_cell 2 := ⟨gt (i := 674) (by decide +kernel) rfl, inL, by decide +kernel, by decide⟩
abbrev mX10_init : Mx := (yX10_init, cX10_init, 2, none)
theorem wX10_init : CWd mX10_init 1 := ⟨gt (i := 679) (by decide +kernel) rfl, inX10, by decide +kernel, by decide⟩
abbrev mX10_node : Mx := (yX10_node, cX10_node, 4, (some FieldType.int))
theorem wX10_node : CWd mX10_node 3 := ⟨gt (i := 863) (by decide +kernel) rfl, inX10, by decide +kernel, by decide⟩
abbrev mX10_is : Mx := (yX10_is, cX10_is, 3, (some FieldType.boolean))
theorem wX10_is : CWd mX10_is 3 := ⟨gt (i := 868) (by decide +kernel) rfl, inX10, by decide +kernel, by decide⟩
abbrev mX10_pipe : Mx := (yX10_pipe, cX10_pipe, 5, (some FieldType.int))
theorem wX10_pipe : CWd mX10_pipe 4 := ⟨gt (i := 872) (by decide +kernel) rfl, inX10, by decide +kernel, by decide⟩
abbrev mX10_isNode : Mx := (yX10_isNode, cX10_isNode, 2, (some FieldType.boolean))
theorem wX10_isNode : CWd mX10_isNode 1 := ⟨gt (i := 876) (by decide +kernel) rfl, inX10, by decide +kernel, by decide⟩
abbrev mX10_area : Mx := (yX10_area, cX10_area, 4, (some FieldType.int))
theorem wX10_area : CWd mX10_area 3 := ⟨gt (i := 880) (by decide +kernel) rfl, inX10, by decide +kernel, by decide⟩
abbrev mX10_rain : Mx := (yX10_rain, cX10_rain, 4, (some FieldType.int))
theorem wX10_rain : CWd mX10_rain 2 := ⟨gt (i := 885) (by decide +kernel) rfl, inX10, by decide +kernel, by decide⟩
abbrev mX10_pump : Mx := (yX10_pump, cX10_pump, 6, (some FieldType.int))
theorem wX10_pump : CWd mX10_pump 5 := ⟨gt (i := 889) (by decide +kernel) rfl, inX10, by decide +kernel, by decide⟩
abbrev mX10_gate : Mx := (yX10_gate, cX10_gate, 4, (some FieldType.int))
theorem wX10_gate : CWd mX10_gate 3 := ⟨gt (i := 893) (by decide +kernel) rfl, inX10, by decide +kernel, by decide⟩
abbrev mX10_gully : Mx := (yX10_gully, cX10_gully, 4, (some FieldType.int))
theorem wX10_gully : CWd mX10_gully 3 := ⟨gt (i := 898) (by decide +kernel) rfl, inX10, by decide +kernel, by decide⟩
abbrev mX10_street : Mx := (yX10_street, cX10_street, 4, (some FieldType.int))
theorem wX10_street : CWd mX10_street 2 := ⟨gt (i := 902) (by decide +kernel) rfl, inX10, by decide +kernel, by decide⟩
abbrev mX10_run : Mx := (yX10_run, cX10_run, 4, (some FieldType.int))
theorem wX10_run : CWd mX10_run 1 := ⟨gt (i := 906) (by decide +kernel) rfl, inX10, by decide +kernel, by decide⟩
abbrev mX10_rainOf : Mx := (yX10_rainOf, cX10_rainOf, 5, none)
theorem wX10_rainOf : CWd mX10_rainOf 2 := ⟨gt (i := 911) (by decide +kernel) rfl, inX10, by decide +kernel, by decide⟩
abbrev mX10_levelOf : Mx := (yX10_levelOf, cX10_levelOf, 2, (some FieldType.long))
theorem wX10_levelOf : CWd mX10_levelOf 1 := ⟨gt (i := 916) (by decide +kernel) rfl, inX10, by decide +kernel, by decide⟩
abbrev mX10_flowOf : Mx := (yX10_flowOf, cX10_flowOf, 10, none)
theorem wX10_flowOf : CWd mX10_flowOf 1 := ⟨gt (i := 920) (by decide +kernel) rfl, inX10, by decide +kernel, by decide⟩
abbrev mX10_less : Mx := (yX10_less, cX10_less, 4, (some FieldType.long))
theorem wX10_less : CWd mX10_less 2 := ⟨gt (i := 924) (by decide +kernel) rfl, inX10, by decide +kernel, by decide⟩
abbrev mX10_pumpOf : Mx := (yX10_pumpOf, cX10_pumpOf, 6, none)
theorem wX10_pumpOf : CWd mX10_pumpOf 1 := ⟨gt (i := 928) (by decide +kernel) rfl, inX10, by decide +kernel, by decide⟩
abbrev mX10_gateOf : Mx := (yX10_gateOf, cX10_gateOf, 7, none)
theorem wX10_gateOf : CWd mX10_gateOf 1 := ⟨gt (i := 932) (by decide +kernel) rfl, inX10, by decide +kernel, by decide⟩
abbrev mX10_gullyOf : Mx := (yX10_gullyOf, cX10_gullyOf, 7, none)
theorem wX10_gullyOf : CWd mX10_gullyOf 1 := ⟨gt (i := 936) (by decide +kernel) rfl, inX10, by decide +kernel, by decide⟩
abbrev mX10_fullOf : Mx := (yX10_fullOf, cX10_fullOf, 2, (some FieldType.long))
theorem wX10_fullOf : CWd mX10_fullOf 1 := ⟨gt (i := 940) (by decide +kernel) rfl, inX10, by decide +kernel, by decide⟩
abbrev mX10_nodeOf : Mx := (yX10_nodeOf, cX10_nodeOf, 4, none)
theorem wX10_nodeOf : CWd mX10_nodeOf 1 := ⟨gt (i := 944) (by decide +kernel) rfl, inX10, by decide +kernel, by decide⟩
abbrev mX10_told : Mx := (yX10_told, cX10_told, 3, (some FieldType.long))
theorem wX10_told : CWd mX10_told 2 := ⟨gt (i := 948) (by decide +kernel) rfl, inX10, by decide +kernel, by decide⟩
abbrev mX10_flow : Mx := (yX10_flow, cX10_flow, 3, (some FieldType.long))
theorem wX10_flow : CWd mX10_flow 2 := ⟨gt (i := 953) (by decide +kernel) rfl, inX10, by decide +kernel, by decide⟩
abbrev mX10_cell : Mx := (yX10_cell, cX10_cell, 2, (some FieldType.long))
theorem wX10_cell : CWd mX10_cell 1 := ⟨gt (i := 958) (by decide +kernel) rfl, inX10, by decide +kernel, by decide⟩
abbrev mX10_pumps : Mx := (yX10_pumps, cX10_pumps, 2, (some FieldType.int))
theorem wX10_pumps : CWd mX10_pumps 1 := ⟨gt (i := 963) (by decide +kernel) rfl, inX10, by decide +kernel, by decide⟩
abbrev mX10_litres : Mx := (yX10_litres, cX10_litres, 2, (some FieldType.long))
theorem wX10_litres : CWd mX10_litres 1 := ⟨gt (i := 967) (by decide +kernel) rfl, inX10, by decide +kernel, by decide⟩
abbrev mX10_inNodes : Mx := (yX10_inNodes, cX10_inNodes, 4, (some FieldType.long))
theorem wX10_inNodes : CWd mX10_inNodes 0 := ⟨gt (i := 971) (by decide +kernel) rfl, inX10, by decide +kernel, by decide⟩
abbrev mX10_inCells : Mx := (yX10_inCells, cX10_inCells, 4, (some FieldType.long))
theorem wX10_inCells : CWd mX10_inCells 0 := ⟨gt (i := 975) (by decide +kernel) rfl, inX10, by decide +kernel, by decide⟩
abbrev mX10_keeps : Mx := (yX10_keeps, cX10_keeps, 1, (some FieldType.boolean))
theorem wX10_keeps : CWd mX10_keeps 0 := ⟨gt (i := 979) (by decide +kernel) rfl, inX10, by decide +kernel, by decide⟩
abbrev mX10_list : Mx := (yX10_list, cX10_list, 3, (some FieldType.int))
theorem wX10_list : CWd mX10_list 2 := ⟨gt (i := 983) (by decide +kernel) rfl, inX10, by decide +kernel, by decide⟩
abbrev mX10_begin : Mx := (yX10_begin, cX10_begin, 3, (some FieldType.boolean))
theorem wX10_begin : CWd mX10_begin 2 := ⟨gt (i := 987) (by decide +kernel) rfl, inX10, by decide +kernel, by decide⟩
abbrev mX10_piece : Mx := (yX10_piece, cX10_piece, 4, (some FieldType.int))
theorem wX10_piece : CWd mX10_piece 3 := ⟨gt (i := 991) (by decide +kernel) rfl, inX10, by decide +kernel, by decide⟩
abbrev mX10_lay : Mx := (yX10_lay, cX10_lay, 13, (some FieldType.long))
theorem wX10_lay : CWd mX10_lay 2 := ⟨gt (i := 995) (by decide +kernel) rfl, inX10, by decide +kernel, by decide⟩
abbrev mX10_with : Mx := (yX10_with, cX10_with, 13, (some FieldType.long))
theorem wX10_with : CWd mX10_with 6 := ⟨gt (i := 1000) (by decide +kernel) rfl, inX10, by decide +kernel, by decide⟩
abbrev mX10_place : Mx := (yX10_place, cX10_place, 4, (some FieldType.int))
theorem wX10_place : CWd mX10_place 3 := ⟨gt (i := 1004) (by decide +kernel) rfl, inX10, by decide +kernel, by decide⟩
abbrev mX10_laid : Mx := (yX10_laid, cX10_laid, 3, (some FieldType.int))
theorem wX10_laid : CWd mX10_laid 2 := ⟨gt (i := 1009) (by decide +kernel) rfl, inX10, by decide +kernel, by decide⟩
abbrev mX10_count : Mx := (yX10_count, cX10_count, 2, (some FieldType.int))
theorem wX10_count : CWd mX10_count 1 := ⟨gt (i := 1014) (by decide +kernel) rfl, inX10, by decide +kernel, by decide⟩
theorem ac_I : Cond.arrayClass .int ∈ gtbl := gt (i := 96) (by decide +kernel) rfl
theorem ac_J : Cond.arrayClass .long ∈ gtbl := gt (i := 97) (by decide +kernel) rfl
theorem ac_Z : Cond.arrayClass .boolean ∈ gtbl := gt (i := 859) (by decide +kernel) rfl
theorem sf_mod : Cond.sameField "java/util/ArrayList" (TJx4a65c 0).1 (TJx4a65c 0).2.1 (TJx4a65c 0).2.2.1 ∈ gtbl := gt (i := 47) (by decide +kernel) rfl
