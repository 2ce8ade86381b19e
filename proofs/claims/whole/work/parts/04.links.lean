theorem zw_us {ws : List Cond} (ps : List Nat) (hp : ws = ps.filterMap (fun i => tables_1[i]?)) (h : ws.all goodWord = true) : ∀ w ∈ ws, w ∈ zw := by
  intro w hw
  have h1 := List.all_eq_true.mp h w hw
  rw [hp] at hw
  obtain ⟨i, -, hi⟩ := List.mem_filterMap.mp hw
  exact zw_t hi h1
theorem uX0 : ∀ w ∈ u_ws RX0 TX0 9, w ∈ zw := zw_us [227, 229, 231, 233, 235, 237, 239, 241, 243] (by decide +kernel) (by decide +kernel)
theorem uX1 : ∀ w ∈ u_ws RX1 TX1 7, w ∈ zw := zw_us [174, 176, 178, 180, 182, 184, 186] (by decide +kernel) (by decide +kernel)
theorem uX2 : ∀ w ∈ u_ws RX2 TX2 3, w ∈ zw := zw_us [198, 200, 202] (by decide +kernel) (by decide +kernel)
theorem uX3 : ∀ w ∈ u_ws RX3 TX3 4, w ∈ zw := zw_us [259, 261, 263, 265] (by decide +kernel) (by decide +kernel)
theorem uX4 : ∀ w ∈ u_ws RX4 TX4 8, w ∈ zw := zw_us [78, 80, 82, 84, 86, 88, 90, 92] (by decide +kernel) (by decide +kernel)
theorem uX5 : ∀ w ∈ u_ws RX5 TX5 7, w ∈ zw := zw_us [45, 47, 49, 51, 53, 55, 57] (by decide +kernel) (by decide +kernel)
theorem uX6 : ∀ w ∈ u_ws RX6 TX6 3, w ∈ zw := zw_us [281, 283, 285] (by decide +kernel) (by decide +kernel)
theorem uX7 : ∀ w ∈ u_ws RX7 TX7 5, w ∈ zw := zw_us [300, 302, 304, 306, 308] (by decide +kernel) (by decide +kernel)
theorem uX8 : ∀ w ∈ u_ws RX8 TX8 12, w ∈ zw := zw_us [133, 135, 137, 139, 141, 143, 145, 147, 149, 151, 153, 155] (by decide +kernel) (by decide +kernel)
theorem uX9 : ∀ w ∈ u_ws RX9 TX9 6, w ∈ zw := zw_us [325, 327, 329, 331, 333, 335] (by decide +kernel) (by decide +kernel)
theorem uX10 : ∀ w ∈ u_ws RX10 TX10 15, w ∈ zw := zw_us [353, 355, 357, 359, 361, 363, 365, 367, 369, 371, 373, 375, 377, 379, 381] (by decide +kernel) (by decide +kernel)
theorem uX11 : ∀ w ∈ u_ws RX11 TX11 40, w ∈ zw := zw_us [1118, 1120, 1122, 1124, 1126, 1128, 1130, 1132, 1134, 1136, 1138, 1140, 1142, 1144, 1146, 1148, 1150, 1152, 1154, 1156, 1158, 1160, 1162, 1164, 1166, 1168, 1170, 1172, 1174, 1176, 1178, 1180, 1182, 1184, 1186, 1188, 1190, 1192, 1194, 1196] (by decide +kernel) (by decide +kernel)
abbrev MX0_init : zO := (RX0, cX0_init, 3, none)
theorem kX0_init : zCal MX0_init yX0_init 2 := ⟨(zw_t (i := 209) (by decide +kernel) rfl), (zw_t (i := 7) (by decide +kernel) rfl), ⟨by decide +kernel, by decide +kernel, by decide +kernel⟩, by decide⟩
abbrev MX0_findBest : zO := (RX0, cX0_findBest, 2, none)
theorem kX0_findBest : zCalV MX0_findBest yX0_findBest 1 := ⟨⟨(zw_t (i := 779) (by decide +kernel) rfl), (zw_t (i := 7) (by decide +kernel) rfl), ⟨by decide +kernel, by decide +kernel, by decide +kernel⟩, by decide⟩, (zw_t (i := 777) (by decide +kernel) rfl), (zw_t (i := 778) (by decide +kernel) rfl)⟩
abbrev MX0_search : zO := (RX0, cX0_search, 5, none)
theorem kX0_search : zCalS MX0_search yX0_search 3 := ⟨⟨(zw_t (i := 784) (by decide +kernel) rfl), (zw_t (i := 7) (by decide +kernel) rfl), ⟨by decide +kernel, by decide +kernel, by decide +kernel⟩, by decide⟩, (zw_t (i := 783) (by decide +kernel) rfl)⟩
abbrev MX0_weigh : zO := (RX0, cX0_weigh, 2, none)
theorem kX0_weigh : zCalV MX0_weigh yX0_weigh 1 := ⟨⟨(zw_t (i := 788) (by decide +kernel) rfl), (zw_t (i := 7) (by decide +kernel) rfl), ⟨by decide +kernel, by decide +kernel, by decide +kernel⟩, by decide⟩, (zw_t (i := 787) (by decide +kernel) rfl), (zw_p (i := 14) (by decide +kernel) rfl)⟩
abbrev MX0_gameValue : zO := (RX0, cX0_gameValue, 2, some .int)
theorem kX0_gameValue : zCalV MX0_gameValue yX0_gameValue 1 := ⟨⟨(zw_t (i := 814) (by decide +kernel) rfl), (zw_t (i := 7) (by decide +kernel) rfl), ⟨by decide +kernel, by decide +kernel, by decide +kernel⟩, by decide⟩, (zw_t (i := 812) (by decide +kernel) rfl), (zw_t (i := 813) (by decide +kernel) rfl)⟩
abbrev MX0_valueFrom : zO := (RX0, cX0_valueFrom, 7, some .int)
theorem kX0_valueFrom : zCalS MX0_valueFrom yX0_valueFrom 2 := ⟨⟨(zw_t (i := 817) (by decide +kernel) rfl), (zw_t (i := 7) (by decide +kernel) rfl), ⟨by decide +kernel, by decide +kernel, by decide +kernel⟩, by decide⟩, (zw_t (i := 816) (by decide +kernel) rfl)⟩
abbrev MX0_keepAims : zO := (RX0, cX0_keepAims, 2, none)
theorem kX0_keepAims : zCalV MX0_keepAims yX0_keepAims 1 := ⟨⟨(zw_t (i := 793) (by decide +kernel) rfl), (zw_t (i := 7) (by decide +kernel) rfl), ⟨by decide +kernel, by decide +kernel, by decide +kernel⟩, by decide⟩, (zw_t (i := 792) (by decide +kernel) rfl), (zw_p (i := 15) (by decide +kernel) rfl)⟩
abbrev MX0_takeBack : zO := (RX0, cX0_takeBack, 2, none)
theorem kX0_takeBack : zCalV MX0_takeBack yX0_takeBack 1 := ⟨⟨(zw_t (i := 798) (by decide +kernel) rfl), (zw_t (i := 7) (by decide +kernel) rfl), ⟨by decide +kernel, by decide +kernel, by decide +kernel⟩, by decide⟩, (zw_t (i := 797) (by decide +kernel) rfl), (zw_p (i := 16) (by decide +kernel) rfl)⟩
abbrev MX1_init : zO := (RX1, cX1_init, 1, none)
theorem kX1_init : zCal MX1_init yX1_init 0 := ⟨(zw_t (i := 162) (by decide +kernel) rfl), (zw_t (i := 5) (by decide +kernel) rfl), ⟨by decide +kernel, by decide +kernel, by decide +kernel⟩, by decide⟩
abbrev MX1_copyFrom : zO := (RX1, cX1_copyFrom, 2, none)
theorem kX1_copyFrom : zCalV MX1_copyFrom yX1_copyFrom 1 := ⟨⟨(zw_t (i := 1065) (by decide +kernel) rfl), (zw_t (i := 5) (by decide +kernel) rfl), ⟨by decide +kernel, by decide +kernel, by decide +kernel⟩, by decide⟩, (zw_t (i := 1063) (by decide +kernel) rfl), (zw_t (i := 1064) (by decide +kernel) rfl)⟩
abbrev MX1_addReport : zO := (RX1, cX1_addReport, 6, some .int)
theorem kX1_addReport : zCalV MX1_addReport yX1_addReport 4 := ⟨⟨(zw_t (i := 829) (by decide +kernel) rfl), (zw_t (i := 5) (by decide +kernel) rfl), ⟨by decide +kernel, by decide +kernel, by decide +kernel⟩, by decide⟩, (zw_t (i := 827) (by decide +kernel) rfl), (zw_t (i := 828) (by decide +kernel) rfl)⟩
abbrev MX1_countWalks : zO := (RX1, cX1_countWalks, 5, some .int)
theorem kX1_countWalks : zCalV MX1_countWalks yX1_countWalks 1 := ⟨⟨(zw_t (i := 841) (by decide +kernel) rfl), (zw_t (i := 5) (by decide +kernel) rfl), ⟨by decide +kernel, by decide +kernel, by decide +kernel⟩, by decide⟩, (zw_t (i := 839) (by decide +kernel) rfl), (zw_t (i := 840) (by decide +kernel) rfl)⟩
abbrev MX1_fitsAll : zO := (RX1, cX1_fitsAll, 6, some .boolean)
theorem kX1_fitsAll : zCalV MX1_fitsAll yX1_fitsAll 3 := ⟨⟨(zw_t (i := 845) (by decide +kernel) rfl), (zw_t (i := 5) (by decide +kernel) rfl), ⟨by decide +kernel, by decide +kernel, by decide +kernel⟩, by decide⟩, (zw_t (i := 844) (by decide +kernel) rfl), (zw_p (i := 17) (by decide +kernel) rfl)⟩
abbrev MX1_leastLiar : zO := (RX1, cX1_leastLiar, 2, some .int)
theorem kX1_leastLiar : zCalV MX1_leastLiar yX1_leastLiar 0 := ⟨⟨(zw_t (i := 855) (by decide +kernel) rfl), (zw_t (i := 5) (by decide +kernel) rfl), ⟨by decide +kernel, by decide +kernel, by decide +kernel⟩, by decide⟩, (zw_t (i := 853) (by decide +kernel) rfl), (zw_t (i := 854) (by decide +kernel) rfl)⟩
abbrev MX2_init : zO := (RX2, cX2_init, 3, none)
theorem kX2_init : zCal MX2_init yX2_init 2 := ⟨(zw_t (i := 193) (by decide +kernel) rfl), (zw_t (i := 6) (by decide +kernel) rfl), ⟨by decide +kernel, by decide +kernel, by decide +kernel⟩, by decide⟩
abbrev MX2_worthOfBeats : zO := (RX2, cX2_worthOfBeats, 4, some .int)
theorem kX2_worthOfBeats : zCalV MX2_worthOfBeats yX2_worthOfBeats 1 := ⟨⟨(zw_t (i := 711) (by decide +kernel) rfl), (zw_t (i := 6) (by decide +kernel) rfl), ⟨by decide +kernel, by decide +kernel, by decide +kernel⟩, by decide⟩, (zw_t (i := 709) (by decide +kernel) rfl), (zw_t (i := 710) (by decide +kernel) rfl)⟩
abbrev MX2_worthWith : zO := (RX2, cX2_worthWith, 6, some .int)
theorem kX2_worthWith : zCalV MX2_worthWith yX2_worthWith 3 := ⟨⟨(zw_t (i := 695) (by decide +kernel) rfl), (zw_t (i := 6) (by decide +kernel) rfl), ⟨by decide +kernel, by decide +kernel, by decide +kernel⟩, by decide⟩, (zw_t (i := 693) (by decide +kernel) rfl), (zw_t (i := 694) (by decide +kernel) rfl)⟩
abbrev MX2_worthiest : zO := (RX2, cX2_worthiest, 8, some .int)
theorem kX2_worthiest : zCalV MX2_worthiest yX2_worthiest 3 := ⟨⟨(zw_t (i := 738) (by decide +kernel) rfl), (zw_t (i := 6) (by decide +kernel) rfl), ⟨by decide +kernel, by decide +kernel, by decide +kernel⟩, by decide⟩, (zw_t (i := 736) (by decide +kernel) rfl), (zw_t (i := 737) (by decide +kernel) rfl)⟩
abbrev MX2_firstOutWith : zO := (RX2, cX2_firstOutWith, 4, some .int)
theorem kX2_firstOutWith : zCalV MX2_firstOutWith yX2_firstOutWith 2 := ⟨⟨(zw_t (i := 720) (by decide +kernel) rfl), (zw_t (i := 6) (by decide +kernel) rfl), ⟨by decide +kernel, by decide +kernel, by decide +kernel⟩, by decide⟩, (zw_t (i := 718) (by decide +kernel) rfl), (zw_t (i := 719) (by decide +kernel) rfl)⟩
abbrev MX2_leastStep : zO := (RX2, cX2_leastStep, 3, some .int)
theorem kX2_leastStep : zCalV MX2_leastStep yX2_leastStep 1 := ⟨⟨(zw_t (i := 751) (by decide +kernel) rfl), (zw_t (i := 6) (by decide +kernel) rfl), ⟨by decide +kernel, by decide +kernel, by decide +kernel⟩, by decide⟩, (zw_t (i := 749) (by decide +kernel) rfl), (zw_t (i := 750) (by decide +kernel) rfl)⟩
abbrev MX2_crossings : zO := (RX2, cX2_crossings, 7, some .int)
theorem kX2_crossings : zCalV MX2_crossings yX2_crossings 2 := ⟨⟨(zw_t (i := 729) (by decide +kernel) rfl), (zw_t (i := 6) (by decide +kernel) rfl), ⟨by decide +kernel, by decide +kernel, by decide +kernel⟩, by decide⟩, (zw_t (i := 727) (by decide +kernel) rfl), (zw_t (i := 728) (by decide +kernel) rfl)⟩
abbrev MX2_fewestLamps : zO := (RX2, cX2_fewestLamps, 4, some .int)
theorem kX2_fewestLamps : zCalV MX2_fewestLamps yX2_fewestLamps 0 := ⟨⟨(zw_t (i := 760) (by decide +kernel) rfl), (zw_t (i := 6) (by decide +kernel) rfl), ⟨by decide +kernel, by decide +kernel, by decide +kernel⟩, by decide⟩, (zw_t (i := 758) (by decide +kernel) rfl), (zw_t (i := 759) (by decide +kernel) rfl)⟩
abbrev MX2_isNeverDark : zO := (RX2, cX2_isNeverDark, 3, some .boolean)
theorem kX2_isNeverDark : zCalV MX2_isNeverDark yX2_isNeverDark 1 := ⟨⟨(zw_t (i := 771) (by decide +kernel) rfl), (zw_t (i := 6) (by decide +kernel) rfl), ⟨by decide +kernel, by decide +kernel, by decide +kernel⟩, by decide⟩, (zw_t (i := 770) (by decide +kernel) rfl), (zw_p (i := 13) (by decide +kernel) rfl)⟩
abbrev MX2_timesWorth : zO := (RX2, cX2_timesWorth, 8, some .int)
theorem kX2_timesWorth : zCalV MX2_timesWorth yX2_timesWorth 2 := ⟨⟨(zw_t (i := 879) (by decide +kernel) rfl), (zw_t (i := 6) (by decide +kernel) rfl), ⟨by decide +kernel, by decide +kernel, by decide +kernel⟩, by decide⟩, (zw_t (i := 877) (by decide +kernel) rfl), (zw_t (i := 878) (by decide +kernel) rfl)⟩
abbrev MX3_init : zO := (RX3, cX3_init, 3, none)
theorem kX3_init : zCal MX3_init yX3_init 2 := ⟨(zw_t (i := 250) (by decide +kernel) rfl), (zw_t (i := 8) (by decide +kernel) rfl), ⟨by decide +kernel, by decide +kernel, by decide +kernel⟩, by decide⟩
abbrev MX3_hasCell : zO := (RX3, cX3_hasCell, 3, some .boolean)
theorem kX3_hasCell : zCalV MX3_hasCell yX3_hasCell 2 := ⟨⟨(zw_t (i := 900) (by decide +kernel) rfl), (zw_t (i := 8) (by decide +kernel) rfl), ⟨by decide +kernel, by decide +kernel, by decide +kernel⟩, by decide⟩, (zw_t (i := 898) (by decide +kernel) rfl), (zw_t (i := 899) (by decide +kernel) rfl)⟩
abbrev MX3_tell : zO := (RX3, cX3_tell, 4, none)
theorem kX3_tell : zCalV MX3_tell yX3_tell 2 := ⟨⟨(zw_t (i := 888) (by decide +kernel) rfl), (zw_t (i := 8) (by decide +kernel) rfl), ⟨by decide +kernel, by decide +kernel, by decide +kernel⟩, by decide⟩, (zw_t (i := 886) (by decide +kernel) rfl), (zw_t (i := 887) (by decide +kernel) rfl)⟩
abbrev MX3_firstWrong : zO := (RX3, cX3_firstWrong, 4, some .int)
theorem kX3_firstWrong : zCalV MX3_firstWrong yX3_firstWrong 0 := ⟨⟨(zw_t (i := 912) (by decide +kernel) rfl), (zw_t (i := 8) (by decide +kernel) rfl), ⟨by decide +kernel, by decide +kernel, by decide +kernel⟩, by decide⟩, (zw_t (i := 910) (by decide +kernel) rfl), (zw_t (i := 911) (by decide +kernel) rfl)⟩
abbrev MX4_init : zO := (RX4, cX4_init, 1, none)
theorem kX4_init : zCal MX4_init yX4_init 0 := ⟨(zw_t (i := 65) (by decide +kernel) rfl), (zw_t (i := 3) (by decide +kernel) rfl), ⟨by decide +kernel, by decide +kernel, by decide +kernel⟩, by decide⟩
abbrev MX4_take : zO := (RX4, cX4_take, 5, some .int)
theorem kX4_take : zCalV MX4_take yX4_take 2 := ⟨⟨(zw_t (i := 513) (by decide +kernel) rfl), (zw_t (i := 3) (by decide +kernel) rfl), ⟨by decide +kernel, by decide +kernel, by decide +kernel⟩, by decide⟩, (zw_t (i := 511) (by decide +kernel) rfl), (zw_t (i := 512) (by decide +kernel) rfl)⟩
abbrev MX4_readInto : zO := (RX4, cX4_readInto, 4, some .int)
theorem kX4_readInto : zCalV MX4_readInto yX4_readInto 1 := ⟨⟨(zw_t (i := 521) (by decide +kernel) rfl), (zw_t (i := 3) (by decide +kernel) rfl), ⟨by decide +kernel, by decide +kernel, by decide +kernel⟩, by decide⟩, (zw_t (i := 519) (by decide +kernel) rfl), (zw_t (i := 520) (by decide +kernel) rfl)⟩
abbrev MX4_readRule : zO := (RX4, cX4_readRule, 4, some .boolean)
theorem kX4_readRule : zCalV MX4_readRule yX4_readRule 0 := ⟨⟨(zw_t (i := 620) (by decide +kernel) rfl), (zw_t (i := 3) (by decide +kernel) rfl), ⟨by decide +kernel, by decide +kernel, by decide +kernel⟩, by decide⟩, (zw_t (i := 619) (by decide +kernel) rfl), (zw_p (i := 7) (by decide +kernel) rfl)⟩
abbrev MX4_readAny : zO := (RX4, cX4_readAny, 3, some .boolean)
theorem kX4_readAny : zCalV MX4_readAny yX4_readAny 1 := ⟨⟨(zw_t (i := 624) (by decide +kernel) rfl), (zw_t (i := 3) (by decide +kernel) rfl), ⟨by decide +kernel, by decide +kernel, by decide +kernel⟩, by decide⟩, (zw_t (i := 623) (by decide +kernel) rfl), (zw_p (i := 8) (by decide +kernel) rfl)⟩
abbrev MX4_readAll : zO := (RX4, cX4_readAll, 3, some .boolean)
theorem kX4_readAll : zCalV MX4_readAll yX4_readAll 1 := ⟨⟨(zw_t (i := 628) (by decide +kernel) rfl), (zw_t (i := 3) (by decide +kernel) rfl), ⟨by decide +kernel, by decide +kernel, by decide +kernel⟩, by decide⟩, (zw_t (i := 627) (by decide +kernel) rfl), (zw_p (i := 9) (by decide +kernel) rfl)⟩
abbrev MX4_readOne : zO := (RX4, cX4_readOne, 4, some .boolean)
theorem kX4_readOne : zCalV MX4_readOne yX4_readOne 1 := ⟨⟨(zw_t (i := 632) (by decide +kernel) rfl), (zw_t (i := 3) (by decide +kernel) rfl), ⟨by decide +kernel, by decide +kernel, by decide +kernel⟩, by decide⟩, (zw_t (i := 631) (by decide +kernel) rfl), (zw_p (i := 10) (by decide +kernel) rfl)⟩
abbrev MX4_signHere : zO := (RX4, cX4_signHere, 1, some .int)
theorem kX4_signHere : zCalV MX4_signHere yX4_signHere 0 := ⟨⟨(zw_t (i := 644) (by decide +kernel) rfl), (zw_t (i := 3) (by decide +kernel) rfl), ⟨by decide +kernel, by decide +kernel, by decide +kernel⟩, by decide⟩, (zw_t (i := 643) (by decide +kernel) rfl), (zw_p (i := 12) (by decide +kernel) rfl)⟩
abbrev MX4_readValue : zO := (RX4, cX4_readValue, 2, some .boolean)
theorem kX4_readValue : zCalV MX4_readValue yX4_readValue 0 := ⟨⟨(zw_t (i := 636) (by decide +kernel) rfl), (zw_t (i := 3) (by decide +kernel) rfl), ⟨by decide +kernel, by decide +kernel, by decide +kernel⟩, by decide⟩, (zw_t (i := 635) (by decide +kernel) rfl), (zw_p (i := 11) (by decide +kernel) rfl)⟩
abbrev MX4_scan : zO := (RX4, cX4_scan, 3, none)
theorem kX4_scan : zCalV MX4_scan yX4_scan 0 := ⟨⟨(zw_t (i := 525) (by decide +kernel) rfl), (zw_t (i := 3) (by decide +kernel) rfl), ⟨by decide +kernel, by decide +kernel, by decide +kernel⟩, by decide⟩, (zw_t (i := 524) (by decide +kernel) rfl), (zw_p (i := 3) (by decide +kernel) rfl)⟩
abbrev MX4_scanToken : zO := (RX4, cX4_scanToken, 3, some .int)
theorem kX4_scanToken : zCalV MX4_scanToken yX4_scanToken 1 := ⟨⟨(zw_t (i := 529) (by decide +kernel) rfl), (zw_t (i := 3) (by decide +kernel) rfl), ⟨by decide +kernel, by decide +kernel, by decide +kernel⟩, by decide⟩, (zw_t (i := 528) (by decide +kernel) rfl), (zw_p (i := 4) (by decide +kernel) rfl)⟩
abbrev MX4_wordFrom : zO := (RX4, cX4_wordFrom, 3, some .int)
theorem kX4_wordFrom : zCalV MX4_wordFrom yX4_wordFrom 1 := ⟨⟨(zw_t (i := 536) (by decide +kernel) rfl), (zw_t (i := 3) (by decide +kernel) rfl), ⟨by decide +kernel, by decide +kernel, by decide +kernel⟩, by decide⟩, (zw_t (i := 535) (by decide +kernel) rfl), (zw_p (i := 5) (by decide +kernel) rfl)⟩
abbrev MX4_isName : zO := (RX4, cX4_isName, 4, some .boolean)
theorem kX4_isName : zCalV MX4_isName yX4_isName 2 := ⟨⟨(zw_t (i := 561) (by decide +kernel) rfl), (zw_t (i := 3) (by decide +kernel) rfl), ⟨by decide +kernel, by decide +kernel, by decide +kernel⟩, by decide⟩, (zw_t (i := 560) (by decide +kernel) rfl), (zw_p (i := 6) (by decide +kernel) rfl)⟩
abbrev MX4_isLetter : zO := (RX4, cX4_isLetter, 1, some .boolean)
theorem kX4_isLetter : zCalS MX4_isLetter yX4_isLetter 1 := ⟨⟨(zw_t (i := 532) (by decide +kernel) rfl), (zw_t (i := 3) (by decide +kernel) rfl), ⟨by decide +kernel, by decide +kernel, by decide +kernel⟩, by decide⟩, (zw_t (i := 531) (by decide +kernel) rfl)⟩
abbrev MX4_isDigit : zO := (RX4, cX4_isDigit, 1, some .boolean)
theorem kX4_isDigit : zCalS MX4_isDigit yX4_isDigit 1 := ⟨⟨(zw_t (i := 612) (by decide +kernel) rfl), (zw_t (i := 3) (by decide +kernel) rfl), ⟨by decide +kernel, by decide +kernel, by decide +kernel⟩, by decide⟩, (zw_t (i := 611) (by decide +kernel) rfl)⟩
abbrev MX4_nameOf : zO := (RX4, cX4_nameOf, 1, some (.object "java/lang/String"))
theorem kX4_nameOf : zCalS MX4_nameOf yX4_nameOf 1 := ⟨⟨(zw_t (i := 539) (by decide +kernel) rfl), (zw_t (i := 3) (by decide +kernel) rfl), ⟨by decide +kernel, by decide +kernel, by decide +kernel⟩, by decide⟩, (zw_t (i := 538) (by decide +kernel) rfl)⟩
abbrev MX5_init : zO := (RX5, cX5_init, 1, none)
theorem kX5_init : zCal MX5_init yX5_init 0 := ⟨(zw_t (i := 32) (by decide +kernel) rfl), (zw_t (i := 2) (by decide +kernel) rfl), ⟨by decide +kernel, by decide +kernel, by decide +kernel⟩, by decide⟩
abbrev MX5_copyFrom : zO := (RX5, cX5_copyFrom, 2, none)
theorem kX5_copyFrom : zCalV MX5_copyFrom yX5_copyFrom 1 := ⟨⟨(zw_t (i := 652) (by decide +kernel) rfl), (zw_t (i := 2) (by decide +kernel) rfl), ⟨by decide +kernel, by decide +kernel, by decide +kernel⟩, by decide⟩, (zw_t (i := 650) (by decide +kernel) rfl), (zw_t (i := 651) (by decide +kernel) rfl)⟩
abbrev MX5_clear : zO := (RX5, cX5_clear, 1, none)
theorem kX5_clear : zCalV MX5_clear yX5_clear 0 := ⟨⟨(zw_t (i := 616) (by decide +kernel) rfl), (zw_t (i := 2) (by decide +kernel) rfl), ⟨by decide +kernel, by decide +kernel, by decide +kernel⟩, by decide⟩, (zw_t (i := 614) (by decide +kernel) rfl), (zw_t (i := 615) (by decide +kernel) rfl)⟩
abbrev MX5_addCode : zO := (RX5, cX5_addCode, 2, none)
theorem kX5_addCode : zCalV MX5_addCode yX5_addCode 1 := ⟨⟨(zw_t (i := 640) (by decide +kernel) rfl), (zw_t (i := 2) (by decide +kernel) rfl), ⟨by decide +kernel, by decide +kernel, by decide +kernel⟩, by decide⟩, (zw_t (i := 638) (by decide +kernel) rfl), (zw_t (i := 639) (by decide +kernel) rfl)⟩
abbrev MX5_addRule : zO := (RX5, cX5_addRule, 3, none)
theorem kX5_addRule : zCalV MX5_addRule yX5_addRule 2 := ⟨⟨(zw_t (i := 648) (by decide +kernel) rfl), (zw_t (i := 2) (by decide +kernel) rfl), ⟨by decide +kernel, by decide +kernel, by decide +kernel⟩, by decide⟩, (zw_t (i := 646) (by decide +kernel) rfl), (zw_t (i := 647) (by decide +kernel) rfl)⟩
abbrev MX5_holds : zO := (RX5, cX5_holds, 7, some .boolean)
theorem kX5_holds : zCalV MX5_holds yX5_holds 2 := ⟨⟨(zw_t (i := 433) (by decide +kernel) rfl), (zw_t (i := 2) (by decide +kernel) rfl), ⟨by decide +kernel, by decide +kernel, by decide +kernel⟩, by decide⟩, (zw_t (i := 431) (by decide +kernel) rfl), (zw_t (i := 432) (by decide +kernel) rfl)⟩
abbrev MX5_valueOf : zO := (RX5, cX5_valueOf, 2, some .int)
theorem kX5_valueOf : zCalS MX5_valueOf yX5_valueOf 2 := ⟨⟨(zw_t (i := 436) (by decide +kernel) rfl), (zw_t (i := 2) (by decide +kernel) rfl), ⟨by decide +kernel, by decide +kernel, by decide +kernel⟩, by decide⟩, (zw_t (i := 435) (by decide +kernel) rfl)⟩
abbrev MX5_combine : zO := (RX5, cX5_combine, 3, some .int)
theorem kX5_combine : zCalS MX5_combine yX5_combine 3 := ⟨⟨(zw_t (i := 439) (by decide +kernel) rfl), (zw_t (i := 2) (by decide +kernel) rfl), ⟨by decide +kernel, by decide +kernel, by decide +kernel⟩, by decide⟩, (zw_t (i := 438) (by decide +kernel) rfl)⟩
abbrev MX6_init : zO := (RX6, cX6_init, 1, none)
theorem kX6_init : zCal MX6_init yX6_init 0 := ⟨(zw_t (i := 272) (by decide +kernel) rfl), (zw_t (i := 9) (by decide +kernel) rfl), ⟨by decide +kernel, by decide +kernel, by decide +kernel⟩, by decide⟩
abbrev MX6_isSheet : zO := (RX6, cX6_isSheet, 1, some .boolean)
theorem kX6_isSheet : zCalS MX6_isSheet yX6_isSheet 1 := ⟨⟨(zw_t (i := 925) (by decide +kernel) rfl), (zw_t (i := 9) (by decide +kernel) rfl), ⟨by decide +kernel, by decide +kernel, by decide +kernel⟩, by decide⟩, (zw_t (i := 924) (by decide +kernel) rfl)⟩
abbrev MX6_isMissing : zO := (RX6, cX6_isMissing, 2, some .boolean)
theorem kX6_isMissing : zCalV MX6_isMissing yX6_isMissing 1 := ⟨⟨(zw_t (i := 938) (by decide +kernel) rfl), (zw_t (i := 9) (by decide +kernel) rfl), ⟨by decide +kernel, by decide +kernel, by decide +kernel⟩, by decide⟩, (zw_t (i := 936) (by decide +kernel) rfl), (zw_t (i := 937) (by decide +kernel) rfl)⟩
abbrev MX6_hasItem : zO := (RX6, cX6_hasItem, 3, some .boolean)
theorem kX6_hasItem : zCalV MX6_hasItem yX6_hasItem 2 := ⟨⟨(zw_t (i := 942) (by decide +kernel) rfl), (zw_t (i := 9) (by decide +kernel) rfl), ⟨by decide +kernel, by decide +kernel, by decide +kernel⟩, by decide⟩, (zw_t (i := 940) (by decide +kernel) rfl), (zw_t (i := 941) (by decide +kernel) rfl)⟩
abbrev MX6_renew : zO := (RX6, cX6_renew, 5, some .int)
theorem kX6_renew : zCalV MX6_renew yX6_renew 3 := ⟨⟨(zw_t (i := 929) (by decide +kernel) rfl), (zw_t (i := 9) (by decide +kernel) rfl), ⟨by decide +kernel, by decide +kernel, by decide +kernel⟩, by decide⟩, (zw_t (i := 927) (by decide +kernel) rfl), (zw_t (i := 928) (by decide +kernel) rfl)⟩
abbrev MX6_put : zO := (RX6, cX6_put, 4, some .int)
theorem kX6_put : zCalV MX6_put yX6_put 3 := ⟨⟨(zw_t (i := 946) (by decide +kernel) rfl), (zw_t (i := 9) (by decide +kernel) rfl), ⟨by decide +kernel, by decide +kernel, by decide +kernel⟩, by decide⟩, (zw_t (i := 944) (by decide +kernel) rfl), (zw_t (i := 945) (by decide +kernel) rfl)⟩
abbrev MX6_refusalAs : zO := (RX6, cX6_refusalAs, 3, some .int)
theorem kX6_refusalAs : zCalV MX6_refusalAs yX6_refusalAs 2 := ⟨⟨(zw_t (i := 957) (by decide +kernel) rfl), (zw_t (i := 9) (by decide +kernel) rfl), ⟨by decide +kernel, by decide +kernel, by decide +kernel⟩, by decide⟩, (zw_t (i := 955) (by decide +kernel) rfl), (zw_t (i := 956) (by decide +kernel) rfl)⟩
abbrev MX6_narrowed : zO := (RX6, cX6_narrowed, 2, some .int)
theorem kX6_narrowed : zCalS MX6_narrowed yX6_narrowed 2 := ⟨⟨(zw_t (i := 949) (by decide +kernel) rfl), (zw_t (i := 9) (by decide +kernel) rfl), ⟨by decide +kernel, by decide +kernel, by decide +kernel⟩, by decide⟩, (zw_t (i := 948) (by decide +kernel) rfl)⟩
abbrev MX7_init : zO := (RX7, cX7_init, 3, none)
theorem kX7_init : zCal MX7_init yX7_init 2 := ⟨(zw_t (i := 292) (by decide +kernel) rfl), (zw_t (i := 10) (by decide +kernel) rfl), ⟨by decide +kernel, by decide +kernel, by decide +kernel⟩, by decide⟩
abbrev MX7_isShelf : zO := (RX7, cX7_isShelf, 1, some .boolean)
theorem kX7_isShelf : zCalS MX7_isShelf yX7_isShelf 1 := ⟨⟨(zw_t (i := 983) (by decide +kernel) rfl), (zw_t (i := 10) (by decide +kernel) rfl), ⟨by decide +kernel, by decide +kernel, by decide +kernel⟩, by decide⟩, (zw_t (i := 982) (by decide +kernel) rfl)⟩
abbrev MX7_putLamp : zO := (RX7, cX7_putLamp, 3, some .int)
theorem kX7_putLamp : zCalV MX7_putLamp yX7_putLamp 2 := ⟨⟨(zw_t (i := 987) (by decide +kernel) rfl), (zw_t (i := 10) (by decide +kernel) rfl), ⟨by decide +kernel, by decide +kernel, by decide +kernel⟩, by decide⟩, (zw_t (i := 985) (by decide +kernel) rfl), (zw_t (i := 986) (by decide +kernel) rfl)⟩
abbrev MX7_putRow : zO := (RX7, cX7_putRow, 3, some .int)
theorem kX7_putRow : zCalV MX7_putRow yX7_putRow 2 := ⟨⟨(zw_t (i := 991) (by decide +kernel) rfl), (zw_t (i := 10) (by decide +kernel) rfl), ⟨by decide +kernel, by decide +kernel, by decide +kernel⟩, by decide⟩, (zw_t (i := 989) (by decide +kernel) rfl), (zw_t (i := 990) (by decide +kernel) rfl)⟩
abbrev MX7_putNothing : zO := (RX7, cX7_putNothing, 2, some .int)
theorem kX7_putNothing : zCalV MX7_putNothing yX7_putNothing 1 := ⟨⟨(zw_t (i := 996) (by decide +kernel) rfl), (zw_t (i := 10) (by decide +kernel) rfl), ⟨by decide +kernel, by decide +kernel, by decide +kernel⟩, by decide⟩, (zw_t (i := 994) (by decide +kernel) rfl), (zw_t (i := 995) (by decide +kernel) rfl)⟩
abbrev MX7_holdsLamp : zO := (RX7, cX7_holdsLamp, 2, some .boolean)
theorem kX7_holdsLamp : zCalV MX7_holdsLamp yX7_holdsLamp 1 := ⟨⟨(zw_t (i := 1009) (by decide +kernel) rfl), (zw_t (i := 10) (by decide +kernel) rfl), ⟨by decide +kernel, by decide +kernel, by decide +kernel⟩, by decide⟩, (zw_t (i := 1007) (by decide +kernel) rfl), (zw_t (i := 1008) (by decide +kernel) rfl)⟩
abbrev MX7_asLamp : zO := (RX7, cX7_asLamp, 4, some .int)
theorem kX7_asLamp : zCalV MX7_asLamp yX7_asLamp 2 := ⟨⟨(zw_t (i := 1005) (by decide +kernel) rfl), (zw_t (i := 10) (by decide +kernel) rfl), ⟨by decide +kernel, by decide +kernel, by decide +kernel⟩, by decide⟩, (zw_t (i := 1003) (by decide +kernel) rfl), (zw_t (i := 1004) (by decide +kernel) rfl)⟩
abbrev MX7_asRow : zO := (RX7, cX7_asRow, 3, some .int)
theorem kX7_asRow : zCalV MX7_asRow yX7_asRow 2 := ⟨⟨(zw_t (i := 1015) (by decide +kernel) rfl), (zw_t (i := 10) (by decide +kernel) rfl), ⟨by decide +kernel, by decide +kernel, by decide +kernel⟩, by decide⟩, (zw_t (i := 1013) (by decide +kernel) rfl), (zw_t (i := 1014) (by decide +kernel) rfl)⟩
abbrev MX8_init : zO := (RX8, cX8_init, 2, none)
theorem kX8_init : zCal MX8_init yX8_init 1 := ⟨(zw_t (i := 99) (by decide +kernel) rfl), (zw_t (i := 4) (by decide +kernel) rfl), ⟨by decide +kernel, by decide +kernel, by decide +kernel⟩, by decide⟩
abbrev MX8_copyFrom : zO := (RX8, cX8_copyFrom, 2, none)
theorem kX8_copyFrom : zCalV MX8_copyFrom yX8_copyFrom 1 := ⟨⟨(zw_t (i := 699) (by decide +kernel) rfl), (zw_t (i := 4) (by decide +kernel) rfl), ⟨by decide +kernel, by decide +kernel, by decide +kernel⟩, by decide⟩, (zw_t (i := 697) (by decide +kernel) rfl), (zw_t (i := 698) (by decide +kernel) rfl)⟩
abbrev MX8_hasLamp : zO := (RX8, cX8_hasLamp, 2, some .boolean)
theorem kX8_hasLamp : zCalV MX8_hasLamp yX8_hasLamp 1 := ⟨⟨(zw_t (i := 408) (by decide +kernel) rfl), (zw_t (i := 4) (by decide +kernel) rfl), ⟨by decide +kernel, by decide +kernel, by decide +kernel⟩, by decide⟩, (zw_t (i := 406) (by decide +kernel) rfl), (zw_t (i := 407) (by decide +kernel) rfl)⟩
abbrev MX8_hasBeat : zO := (RX8, cX8_hasBeat, 2, some .boolean)
theorem kX8_hasBeat : zCalV MX8_hasBeat yX8_hasBeat 1 := ⟨⟨(zw_t (i := 493) (by decide +kernel) rfl), (zw_t (i := 4) (by decide +kernel) rfl), ⟨by decide +kernel, by decide +kernel, by decide +kernel⟩, by decide⟩, (zw_t (i := 491) (by decide +kernel) rfl), (zw_t (i := 492) (by decide +kernel) rfl)⟩
abbrev MX8_isOver : zO := (RX8, cX8_isOver, 1, some .boolean)
theorem kX8_isOver : zCalV MX8_isOver yX8_isOver 0 := ⟨⟨(zw_t (i := 443) (by decide +kernel) rfl), (zw_t (i := 4) (by decide +kernel) rfl), ⟨by decide +kernel, by decide +kernel, by decide +kernel⟩, by decide⟩, (zw_t (i := 441) (by decide +kernel) rfl), (zw_t (i := 442) (by decide +kernel) rfl)⟩
abbrev MX8_isAct : zO := (RX8, cX8_isAct, 2, some .boolean)
theorem kX8_isAct : zCalV MX8_isAct yX8_isAct 1 := ⟨⟨(zw_t (i := 917) (by decide +kernel) rfl), (zw_t (i := 4) (by decide +kernel) rfl), ⟨by decide +kernel, by decide +kernel, by decide +kernel⟩, by decide⟩, (zw_t (i := 915) (by decide +kernel) rfl), (zw_t (i := 916) (by decide +kernel) rfl)⟩
abbrev MX8_addLamp : zO := (RX8, cX8_addLamp, 6, some .int)
theorem kX8_addLamp : zCalV MX8_addLamp yX8_addLamp 4 := ⟨⟨(zw_t (i := 400) (by decide +kernel) rfl), (zw_t (i := 4) (by decide +kernel) rfl), ⟨by decide +kernel, by decide +kernel, by decide +kernel⟩, by decide⟩, (zw_t (i := 398) (by decide +kernel) rfl), (zw_t (i := 399) (by decide +kernel) rfl)⟩
abbrev MX8_addBeat : zO := (RX8, cX8_addBeat, 3, some .int)
theorem kX8_addBeat : zCalV MX8_addBeat yX8_addBeat 1 := ⟨⟨(zw_t (i := 485) (by decide +kernel) rfl), (zw_t (i := 4) (by decide +kernel) rfl), ⟨by decide +kernel, by decide +kernel, by decide +kernel⟩, by decide⟩, (zw_t (i := 483) (by decide +kernel) rfl), (zw_t (i := 484) (by decide +kernel) rfl)⟩
abbrev MX8_fieldOf : zO := (RX8, cX8_fieldOf, 2, some (.array .int))
theorem kX8_fieldOf : zCalV MX8_fieldOf yX8_fieldOf 1 := ⟨⟨(zw_t (i := 412) (by decide +kernel) rfl), (zw_t (i := 4) (by decide +kernel) rfl), ⟨by decide +kernel, by decide +kernel, by decide +kernel⟩, by decide⟩, (zw_t (i := 410) (by decide +kernel) rfl), (zw_t (i := 411) (by decide +kernel) rfl)⟩
abbrev MX8_exchange : zO := (RX8, cX8_exchange, 6, some .int)
theorem kX8_exchange : zCalV MX8_exchange yX8_exchange 3 := ⟨⟨(zw_t (i := 472) (by decide +kernel) rfl), (zw_t (i := 4) (by decide +kernel) rfl), ⟨by decide +kernel, by decide +kernel, by decide +kernel⟩, by decide⟩, (zw_t (i := 470) (by decide +kernel) rfl), (zw_t (i := 471) (by decide +kernel) rfl)⟩
abbrev MX8_placeNear : zO := (RX8, cX8_placeNear, 2, some .int)
theorem kX8_placeNear : zCalV MX8_placeNear yX8_placeNear 1 := ⟨⟨(zw_t (i := 420) (by decide +kernel) rfl), (zw_t (i := 4) (by decide +kernel) rfl), ⟨by decide +kernel, by decide +kernel, by decide +kernel⟩, by decide⟩, (zw_t (i := 419) (by decide +kernel) rfl), (zw_p (i := 0) (by decide +kernel) rfl)⟩
abbrev MX8_goalOf : zO := (RX8, cX8_goalOf, 5, some .int)
theorem kX8_goalOf : zCalV MX8_goalOf yX8_goalOf 1 := ⟨⟨(zw_t (i := 416) (by decide +kernel) rfl), (zw_t (i := 4) (by decide +kernel) rfl), ⟨by decide +kernel, by decide +kernel, by decide +kernel⟩, by decide⟩, (zw_t (i := 414) (by decide +kernel) rfl), (zw_t (i := 415) (by decide +kernel) rfl)⟩
abbrev MX8_tellFacts : zO := (RX8, cX8_tellFacts, 3, none)
theorem kX8_tellFacts : zCalV MX8_tellFacts yX8_tellFacts 2 := ⟨⟨(zw_t (i := 424) (by decide +kernel) rfl), (zw_t (i := 4) (by decide +kernel) rfl), ⟨by decide +kernel, by decide +kernel, by decide +kernel⟩, by decide⟩, (zw_t (i := 423) (by decide +kernel) rfl), (zw_p (i := 1) (by decide +kernel) rfl)⟩
abbrev MX8_aimBehind : zO := (RX8, cX8_aimBehind, 3, some .int)
theorem kX8_aimBehind : zCalV MX8_aimBehind yX8_aimBehind 1 := ⟨⟨(zw_t (i := 447) (by decide +kernel) rfl), (zw_t (i := 4) (by decide +kernel) rfl), ⟨by decide +kernel, by decide +kernel, by decide +kernel⟩, by decide⟩, (zw_t (i := 445) (by decide +kernel) rfl), (zw_t (i := 446) (by decide +kernel) rfl)⟩
abbrev MX8_wayOf : zO := (RX8, cX8_wayOf, 5, some .int)
theorem kX8_wayOf : zCalV MX8_wayOf yX8_wayOf 2 := ⟨⟨(zw_t (i := 452) (by decide +kernel) rfl), (zw_t (i := 4) (by decide +kernel) rfl), ⟨by decide +kernel, by decide +kernel, by decide +kernel⟩, by decide⟩, (zw_t (i := 451) (by decide +kernel) rfl), (zw_p (i := 2) (by decide +kernel) rfl)⟩
abbrev MX8_sightOf : zO := (RX8, cX8_sightOf, 2, some .int)
theorem kX8_sightOf : zCalV MX8_sightOf yX8_sightOf 1 := ⟨⟨(zw_t (i := 673) (by decide +kernel) rfl), (zw_t (i := 4) (by decide +kernel) rfl), ⟨by decide +kernel, by decide +kernel, by decide +kernel⟩, by decide⟩, (zw_t (i := 671) (by decide +kernel) rfl), (zw_t (i := 672) (by decide +kernel) rfl)⟩
abbrev MX8_worthOf : zO := (RX8, cX8_worthOf, 3, some .int)
theorem kX8_worthOf : zCalV MX8_worthOf yX8_worthOf 1 := ⟨⟨(zw_t (i := 669) (by decide +kernel) rfl), (zw_t (i := 4) (by decide +kernel) rfl), ⟨by decide +kernel, by decide +kernel, by decide +kernel⟩, by decide⟩, (zw_t (i := 667) (by decide +kernel) rfl), (zw_t (i := 668) (by decide +kernel) rfl)⟩
abbrev MX8_setOf : zO := (RX8, cX8_setOf, 4, some .int)
theorem kX8_setOf : zCalV MX8_setOf yX8_setOf 1 := ⟨⟨(zw_t (i := 687) (by decide +kernel) rfl), (zw_t (i := 4) (by decide +kernel) rfl), ⟨by decide +kernel, by decide +kernel, by decide +kernel⟩, by decide⟩, (zw_t (i := 685) (by decide +kernel) rfl), (zw_t (i := 686) (by decide +kernel) rfl)⟩
abbrev MX8_goBy : zO := (RX8, cX8_goBy, 4, some .int)
theorem kX8_goBy : zCalV MX8_goBy yX8_goBy 1 := ⟨⟨(zw_t (i := 664) (by decide +kernel) rfl), (zw_t (i := 4) (by decide +kernel) rfl), ⟨by decide +kernel, by decide +kernel, by decide +kernel⟩, by decide⟩, (zw_t (i := 662) (by decide +kernel) rfl), (zw_t (i := 663) (by decide +kernel) rfl)⟩
abbrev MX8_goByLot : zO := (RX8, cX8_goByLot, 1, some .int)
theorem kX8_goByLot : zCalV MX8_goByLot yX8_goByLot 0 := ⟨⟨(zw_t (i := 868) (by decide +kernel) rfl), (zw_t (i := 4) (by decide +kernel) rfl), ⟨by decide +kernel, by decide +kernel, by decide +kernel⟩, by decide⟩, (zw_t (i := 866) (by decide +kernel) rfl), (zw_t (i := 867) (by decide +kernel) rfl)⟩
abbrev MX8_held : zO := (RX8, cX8_held, 3, some .int)
theorem kX8_held : zCalS MX8_held yX8_held 3 := ⟨⟨(zw_t (i := 455) (by decide +kernel) rfl), (zw_t (i := 4) (by decide +kernel) rfl), ⟨by decide +kernel, by decide +kernel, by decide +kernel⟩, by decide⟩, (zw_t (i := 454) (by decide +kernel) rfl)⟩
abbrev MX8_sightFor : zO := (RX8, cX8_sightFor, 4, some .int)
theorem kX8_sightFor : zCalS MX8_sightFor yX8_sightFor 3 := ⟨⟨(zw_t (i := 676) (by decide +kernel) rfl), (zw_t (i := 4) (by decide +kernel) rfl), ⟨by decide +kernel, by decide +kernel, by decide +kernel⟩, by decide⟩, (zw_t (i := 675) (by decide +kernel) rfl)⟩
abbrev MX8_isUnder : zO := (RX8, cX8_isUnder, 4, some .boolean)
theorem kX8_isUnder : zCalS MX8_isUnder yX8_isUnder 2 := ⟨⟨(zw_t (i := 427) (by decide +kernel) rfl), (zw_t (i := 4) (by decide +kernel) rfl), ⟨by decide +kernel, by decide +kernel, by decide +kernel⟩, by decide⟩, (zw_t (i := 426) (by decide +kernel) rfl)⟩
abbrev MX9_init : zO := (RX9, cX9_init, 1, none)
theorem kX9_init : zCal MX9_init yX9_init 0 := ⟨(zw_t (i := 315) (by decide +kernel) rfl), (zw_t (i := 11) (by decide +kernel) rfl), ⟨by decide +kernel, by decide +kernel, by decide +kernel⟩, by decide⟩
abbrev MX9_become : zO := (RX9, cX9_become, 4, none)
theorem kX9_become : zCalV MX9_become yX9_become 3 := ⟨⟨(zw_t (i := 1024) (by decide +kernel) rfl), (zw_t (i := 11) (by decide +kernel) rfl), ⟨by decide +kernel, by decide +kernel, by decide +kernel⟩, by decide⟩, (zw_t (i := 1022) (by decide +kernel) rfl), (zw_t (i := 1023) (by decide +kernel) rfl)⟩
abbrev MX9_answer : zO := (RX9, cX9_answer, 4, some .int)
theorem kX9_answer : zCalV MX9_answer yX9_answer 2 := ⟨⟨(zw_t (i := 1028) (by decide +kernel) rfl), (zw_t (i := 11) (by decide +kernel) rfl), ⟨by decide +kernel, by decide +kernel, by decide +kernel⟩, by decide⟩, (zw_t (i := 1026) (by decide +kernel) rfl), (zw_t (i := 1027) (by decide +kernel) rfl)⟩
abbrev MX9_begin : zO := (RX9, cX9_begin, 2, none)
theorem kX9_begin : zCalV MX9_begin yX9_begin 1 := ⟨⟨(zw_t (i := 1036) (by decide +kernel) rfl), (zw_t (i := 11) (by decide +kernel) rfl), ⟨by decide +kernel, by decide +kernel, by decide +kernel⟩, by decide⟩, (zw_t (i := 1035) (by decide +kernel) rfl), (zw_p (i := 21) (by decide +kernel) rfl)⟩
abbrev MX9_aims : zO := (RX9, cX9_aims, 3, some .int)
theorem kX9_aims : zCalV MX9_aims yX9_aims 1 := ⟨⟨(zw_t (i := 1032) (by decide +kernel) rfl), (zw_t (i := 11) (by decide +kernel) rfl), ⟨by decide +kernel, by decide +kernel, by decide +kernel⟩, by decide⟩, (zw_t (i := 1031) (by decide +kernel) rfl), (zw_p (i := 20) (by decide +kernel) rfl)⟩
abbrev MX9_swings : zO := (RX9, cX9_swings, 4, some .int)
theorem kX9_swings : zCalV MX9_swings yX9_swings 1 := ⟨⟨(zw_t (i := 1040) (by decide +kernel) rfl), (zw_t (i := 11) (by decide +kernel) rfl), ⟨by decide +kernel, by decide +kernel, by decide +kernel⟩, by decide⟩, (zw_t (i := 1039) (by decide +kernel) rfl), (zw_p (i := 22) (by decide +kernel) rfl)⟩
abbrev MX9_dims : zO := (RX9, cX9_dims, 4, some .int)
theorem kX9_dims : zCalV MX9_dims yX9_dims 1 := ⟨⟨(zw_t (i := 1044) (by decide +kernel) rfl), (zw_t (i := 11) (by decide +kernel) rfl), ⟨by decide +kernel, by decide +kernel, by decide +kernel⟩, by decide⟩, (zw_t (i := 1043) (by decide +kernel) rfl), (zw_p (i := 23) (by decide +kernel) rfl)⟩
abbrev MX9_follows : zO := (RX9, cX9_follows, 3, some .int)
theorem kX9_follows : zCalV MX9_follows yX9_follows 1 := ⟨⟨(zw_t (i := 1048) (by decide +kernel) rfl), (zw_t (i := 11) (by decide +kernel) rfl), ⟨by decide +kernel, by decide +kernel, by decide +kernel⟩, by decide⟩, (zw_t (i := 1047) (by decide +kernel) rfl), (zw_p (i := 24) (by decide +kernel) rfl)⟩
abbrev MX10_init : zO := (RX10, cX10_init, 1, none)
theorem kX10_init : zCal MX10_init yX10_init 0 := ⟨(zw_t (i := 24) (by decide +kernel) rfl), (zw_t (i := 1) (by decide +kernel) rfl), ⟨by decide +kernel, by decide +kernel, by decide +kernel⟩, by decide⟩
abbrev MX10_lamp : zO := (RX10, cX10_lamp, 5, some .int)
theorem kX10_lamp : zCalV MX10_lamp yX10_lamp 4 := ⟨⟨(zw_t (i := 387) (by decide +kernel) rfl), (zw_t (i := 1) (by decide +kernel) rfl), ⟨by decide +kernel, by decide +kernel, by decide +kernel⟩, by decide⟩, (zw_t (i := 385) (by decide +kernel) rfl), (zw_t (i := 386) (by decide +kernel) rfl)⟩
abbrev MX10_lampOf : zO := (RX10, cX10_lampOf, 3, some .int)
theorem kX10_lampOf : zCalV MX10_lampOf yX10_lampOf 2 := ⟨⟨(zw_t (i := 404) (by decide +kernel) rfl), (zw_t (i := 1) (by decide +kernel) rfl), ⟨by decide +kernel, by decide +kernel, by decide +kernel⟩, by decide⟩, (zw_t (i := 402) (by decide +kernel) rfl), (zw_t (i := 403) (by decide +kernel) rfl)⟩
abbrev MX10_change : zO := (RX10, cX10_change, 4, some .int)
theorem kX10_change : zCalV MX10_change yX10_change 3 := ⟨⟨(zw_t (i := 468) (by decide +kernel) rfl), (zw_t (i := 1) (by decide +kernel) rfl), ⟨by decide +kernel, by decide +kernel, by decide +kernel⟩, by decide⟩, (zw_t (i := 466) (by decide +kernel) rfl), (zw_t (i := 467) (by decide +kernel) rfl)⟩
abbrev MX10_remake : zO := (RX10, cX10_remake, 3, some .int)
theorem kX10_remake : zCalV MX10_remake yX10_remake 2 := ⟨⟨(zw_t (i := 477) (by decide +kernel) rfl), (zw_t (i := 1) (by decide +kernel) rfl), ⟨by decide +kernel, by decide +kernel, by decide +kernel⟩, by decide⟩, (zw_t (i := 475) (by decide +kernel) rfl), (zw_t (i := 476) (by decide +kernel) rfl)⟩
abbrev MX10_dance : zO := (RX10, cX10_dance, 2, some .int)
theorem kX10_dance : zCalV MX10_dance yX10_dance 1 := ⟨⟨(zw_t (i := 481) (by decide +kernel) rfl), (zw_t (i := 1) (by decide +kernel) rfl), ⟨by decide +kernel, by decide +kernel, by decide +kernel⟩, by decide⟩, (zw_t (i := 479) (by decide +kernel) rfl), (zw_t (i := 480) (by decide +kernel) rfl)⟩
abbrev MX10_danceOf : zO := (RX10, cX10_danceOf, 2, some .int)
theorem kX10_danceOf : zCalV MX10_danceOf yX10_danceOf 1 := ⟨⟨(zw_t (i := 489) (by decide +kernel) rfl), (zw_t (i := 1) (by decide +kernel) rfl), ⟨by decide +kernel, by decide +kernel, by decide +kernel⟩, by decide⟩, (zw_t (i := 487) (by decide +kernel) rfl), (zw_t (i := 488) (by decide +kernel) rfl)⟩
abbrev MX10_steps : zO := (RX10, cX10_steps, 4, some .int)
theorem kX10_steps : zCalV MX10_steps yX10_steps 2 := ⟨⟨(zw_t (i := 497) (by decide +kernel) rfl), (zw_t (i := 1) (by decide +kernel) rfl), ⟨by decide +kernel, by decide +kernel, by decide +kernel⟩, by decide⟩, (zw_t (i := 495) (by decide +kernel) rfl), (zw_t (i := 496) (by decide +kernel) rfl)⟩
abbrev MX10_anew : zO := (RX10, cX10_anew, 2, some .int)
theorem kX10_anew : zCalV MX10_anew yX10_anew 0 := ⟨⟨(zw_t (i := 501) (by decide +kernel) rfl), (zw_t (i := 1) (by decide +kernel) rfl), ⟨by decide +kernel, by decide +kernel, by decide +kernel⟩, by decide⟩, (zw_t (i := 499) (by decide +kernel) rfl), (zw_t (i := 500) (by decide +kernel) rfl)⟩
abbrev MX10_state : zO := (RX10, cX10_state, 2, some .int)
theorem kX10_state : zCalV MX10_state yX10_state 1 := ⟨⟨(zw_t (i := 505) (by decide +kernel) rfl), (zw_t (i := 1) (by decide +kernel) rfl), ⟨by decide +kernel, by decide +kernel, by decide +kernel⟩, by decide⟩, (zw_t (i := 503) (by decide +kernel) rfl), (zw_t (i := 504) (by decide +kernel) rfl)⟩
abbrev MX10_feed : zO := (RX10, cX10_feed, 4, some .int)
theorem kX10_feed : zCalV MX10_feed yX10_feed 2 := ⟨⟨(zw_t (i := 509) (by decide +kernel) rfl), (zw_t (i := 1) (by decide +kernel) rfl), ⟨by decide +kernel, by decide +kernel, by decide +kernel⟩, by decide⟩, (zw_t (i := 507) (by decide +kernel) rfl), (zw_t (i := 508) (by decide +kernel) rfl)⟩
abbrev MX10_rules : zO := (RX10, cX10_rules, 2, some .int)
theorem kX10_rules : zCalV MX10_rules yX10_rules 0 := ⟨⟨(zw_t (i := 517) (by decide +kernel) rfl), (zw_t (i := 1) (by decide +kernel) rfl), ⟨by decide +kernel, by decide +kernel, by decide +kernel⟩, by decide⟩, (zw_t (i := 515) (by decide +kernel) rfl), (zw_t (i := 516) (by decide +kernel) rfl)⟩
abbrev MX10_beat : zO := (RX10, cX10_beat, 1, some .int)
theorem kX10_beat : zCalV MX10_beat yX10_beat 0 := ⟨⟨(zw_t (i := 660) (by decide +kernel) rfl), (zw_t (i := 1) (by decide +kernel) rfl), ⟨by decide +kernel, by decide +kernel, by decide +kernel⟩, by decide⟩, (zw_t (i := 658) (by decide +kernel) rfl), (zw_t (i := 659) (by decide +kernel) rfl)⟩
abbrev MX10_in : zO := (RX10, cX10_in, 2, some .int)
theorem kX10_in : zCalV MX10_in yX10_in 1 := ⟨⟨(zw_t (i := 683) (by decide +kernel) rfl), (zw_t (i := 1) (by decide +kernel) rfl), ⟨by decide +kernel, by decide +kernel, by decide +kernel⟩, by decide⟩, (zw_t (i := 681) (by decide +kernel) rfl), (zw_t (i := 682) (by decide +kernel) rfl)⟩
abbrev MX10_shows : zO := (RX10, cX10_shows, 2, some .int)
theorem kX10_shows : zCalV MX10_shows yX10_shows 1 := ⟨⟨(zw_t (i := 691) (by decide +kernel) rfl), (zw_t (i := 1) (by decide +kernel) rfl), ⟨by decide +kernel, by decide +kernel, by decide +kernel⟩, by decide⟩, (zw_t (i := 689) (by decide +kernel) rfl), (zw_t (i := 690) (by decide +kernel) rfl)⟩
abbrev MX10_on : zO := (RX10, cX10_on, 2, some .int)
theorem kX10_on : zCalV MX10_on yX10_on 1 := ⟨⟨(zw_t (i := 707) (by decide +kernel) rfl), (zw_t (i := 1) (by decide +kernel) rfl), ⟨by decide +kernel, by decide +kernel, by decide +kernel⟩, by decide⟩, (zw_t (i := 705) (by decide +kernel) rfl), (zw_t (i := 706) (by decide +kernel) rfl)⟩
abbrev MX10_lost : zO := (RX10, cX10_lost, 2, some .int)
theorem kX10_lost : zCalV MX10_lost yX10_lost 1 := ⟨⟨(zw_t (i := 716) (by decide +kernel) rfl), (zw_t (i := 1) (by decide +kernel) rfl), ⟨by decide +kernel, by decide +kernel, by decide +kernel⟩, by decide⟩, (zw_t (i := 714) (by decide +kernel) rfl), (zw_t (i := 715) (by decide +kernel) rfl)⟩
abbrev MX10_crosses : zO := (RX10, cX10_crosses, 3, some .int)
theorem kX10_crosses : zCalV MX10_crosses yX10_crosses 2 := ⟨⟨(zw_t (i := 725) (by decide +kernel) rfl), (zw_t (i := 1) (by decide +kernel) rfl), ⟨by decide +kernel, by decide +kernel, by decide +kernel⟩, by decide⟩, (zw_t (i := 723) (by decide +kernel) rfl), (zw_t (i := 724) (by decide +kernel) rfl)⟩
abbrev MX10_sized : zO := (RX10, cX10_sized, 2, some .int)
theorem kX10_sized : zCalV MX10_sized yX10_sized 1 := ⟨⟨(zw_t (i := 734) (by decide +kernel) rfl), (zw_t (i := 1) (by decide +kernel) rfl), ⟨by decide +kernel, by decide +kernel, by decide +kernel⟩, by decide⟩, (zw_t (i := 732) (by decide +kernel) rfl), (zw_t (i := 733) (by decide +kernel) rfl)⟩
abbrev MX10_aimed : zO := (RX10, cX10_aimed, 2, some .int)
theorem kX10_aimed : zCalV MX10_aimed yX10_aimed 1 := ⟨⟨(zw_t (i := 743) (by decide +kernel) rfl), (zw_t (i := 1) (by decide +kernel) rfl), ⟨by decide +kernel, by decide +kernel, by decide +kernel⟩, by decide⟩, (zw_t (i := 741) (by decide +kernel) rfl), (zw_t (i := 742) (by decide +kernel) rfl)⟩
abbrev MX10_stepFor : zO := (RX10, cX10_stepFor, 2, some .int)
theorem kX10_stepFor : zCalV MX10_stepFor yX10_stepFor 1 := ⟨⟨(zw_t (i := 747) (by decide +kernel) rfl), (zw_t (i := 1) (by decide +kernel) rfl), ⟨by decide +kernel, by decide +kernel, by decide +kernel⟩, by decide⟩, (zw_t (i := 745) (by decide +kernel) rfl), (zw_t (i := 746) (by decide +kernel) rfl)⟩
abbrev MX10_who : zO := (RX10, cX10_who, 1, some .int)
theorem kX10_who : zCalV MX10_who yX10_who 0 := ⟨⟨(zw_t (i := 756) (by decide +kernel) rfl), (zw_t (i := 1) (by decide +kernel) rfl), ⟨by decide +kernel, by decide +kernel, by decide +kernel⟩, by decide⟩, (zw_t (i := 754) (by decide +kernel) rfl), (zw_t (i := 755) (by decide +kernel) rfl)⟩
abbrev MX10_best : zO := (RX10, cX10_best, 2, some .int)
theorem kX10_best : zCalV MX10_best yX10_best 1 := ⟨⟨(zw_t (i := 775) (by decide +kernel) rfl), (zw_t (i := 1) (by decide +kernel) rfl), ⟨by decide +kernel, by decide +kernel, by decide +kernel⟩, by decide⟩, (zw_t (i := 773) (by decide +kernel) rfl), (zw_t (i := 774) (by decide +kernel) rfl)⟩
abbrev MX10_ith : zO := (RX10, cX10_ith, 3, some .int)
theorem kX10_ith : zCalV MX10_ith yX10_ith 2 := ⟨⟨(zw_t (i := 802) (by decide +kernel) rfl), (zw_t (i := 1) (by decide +kernel) rfl), ⟨by decide +kernel, by decide +kernel, by decide +kernel⟩, by decide⟩, (zw_t (i := 800) (by decide +kernel) rfl), (zw_t (i := 801) (by decide +kernel) rfl)⟩
abbrev MX10_ways : zO := (RX10, cX10_ways, 2, some .int)
theorem kX10_ways : zCalV MX10_ways yX10_ways 1 := ⟨⟨(zw_t (i := 806) (by decide +kernel) rfl), (zw_t (i := 1) (by decide +kernel) rfl), ⟨by decide +kernel, by decide +kernel, by decide +kernel⟩, by decide⟩, (zw_t (i := 804) (by decide +kernel) rfl), (zw_t (i := 805) (by decide +kernel) rfl)⟩
abbrev MX10_game : zO := (RX10, cX10_game, 2, some .int)
theorem kX10_game : zCalV MX10_game yX10_game 1 := ⟨⟨(zw_t (i := 810) (by decide +kernel) rfl), (zw_t (i := 1) (by decide +kernel) rfl), ⟨by decide +kernel, by decide +kernel, by decide +kernel⟩, by decide⟩, (zw_t (i := 808) (by decide +kernel) rfl), (zw_t (i := 809) (by decide +kernel) rfl)⟩
abbrev MX10_play : zO := (RX10, cX10_play, 2, some .int)
theorem kX10_play : zCalV MX10_play yX10_play 1 := ⟨⟨(zw_t (i := 821) (by decide +kernel) rfl), (zw_t (i := 1) (by decide +kernel) rfl), ⟨by decide +kernel, by decide +kernel, by decide +kernel⟩, by decide⟩, (zw_t (i := 819) (by decide +kernel) rfl), (zw_t (i := 820) (by decide +kernel) rfl)⟩
abbrev MX10_report : zO := (RX10, cX10_report, 5, some .int)
theorem kX10_report : zCalV MX10_report yX10_report 4 := ⟨⟨(zw_t (i := 825) (by decide +kernel) rfl), (zw_t (i := 1) (by decide +kernel) rfl), ⟨by decide +kernel, by decide +kernel, by decide +kernel⟩, by decide⟩, (zw_t (i := 823) (by decide +kernel) rfl), (zw_t (i := 824) (by decide +kernel) rfl)⟩
abbrev MX10_forget : zO := (RX10, cX10_forget, 2, some .int)
theorem kX10_forget : zCalV MX10_forget yX10_forget 0 := ⟨⟨(zw_t (i := 833) (by decide +kernel) rfl), (zw_t (i := 1) (by decide +kernel) rfl), ⟨by decide +kernel, by decide +kernel, by decide +kernel⟩, by decide⟩, (zw_t (i := 831) (by decide +kernel) rfl), (zw_t (i := 832) (by decide +kernel) rfl)⟩
abbrev MX10_span : zO := (RX10, cX10_span, 3, some .int)
theorem kX10_span : zCalV MX10_span yX10_span 1 := ⟨⟨(zw_t (i := 837) (by decide +kernel) rfl), (zw_t (i := 1) (by decide +kernel) rfl), ⟨by decide +kernel, by decide +kernel, by decide +kernel⟩, by decide⟩, (zw_t (i := 835) (by decide +kernel) rfl), (zw_t (i := 836) (by decide +kernel) rfl)⟩
abbrev MX10_liar : zO := (RX10, cX10_liar, 1, some .int)
theorem kX10_liar : zCalV MX10_liar yX10_liar 0 := ⟨⟨(zw_t (i := 851) (by decide +kernel) rfl), (zw_t (i := 1) (by decide +kernel) rfl), ⟨by decide +kernel, by decide +kernel, by decide +kernel⟩, by decide⟩, (zw_t (i := 849) (by decide +kernel) rfl), (zw_t (i := 850) (by decide +kernel) rfl)⟩
abbrev MX10_seed : zO := (RX10, cX10_seed, 3, some .int)
theorem kX10_seed : zCalV MX10_seed yX10_seed 1 := ⟨⟨(zw_t (i := 860) (by decide +kernel) rfl), (zw_t (i := 1) (by decide +kernel) rfl), ⟨by decide +kernel, by decide +kernel, by decide +kernel⟩, by decide⟩, (zw_t (i := 858) (by decide +kernel) rfl), (zw_t (i := 859) (by decide +kernel) rfl)⟩
abbrev MX10_lot : zO := (RX10, cX10_lot, 1, some .int)
theorem kX10_lot : zCalV MX10_lot yX10_lot 0 := ⟨⟨(zw_t (i := 864) (by decide +kernel) rfl), (zw_t (i := 1) (by decide +kernel) rfl), ⟨by decide +kernel, by decide +kernel, by decide +kernel⟩, by decide⟩, (zw_t (i := 862) (by decide +kernel) rfl), (zw_t (i := 863) (by decide +kernel) rfl)⟩
abbrev MX10_often : zO := (RX10, cX10_often, 3, some .int)
theorem kX10_often : zCalV MX10_often yX10_often 2 := ⟨⟨(zw_t (i := 875) (by decide +kernel) rfl), (zw_t (i := 1) (by decide +kernel) rfl), ⟨by decide +kernel, by decide +kernel, by decide +kernel⟩, by decide⟩, (zw_t (i := 873) (by decide +kernel) rfl), (zw_t (i := 874) (by decide +kernel) rfl)⟩
abbrev MX10_prove : zO := (RX10, cX10_prove, 2, some .int)
theorem kX10_prove : zCalV MX10_prove yX10_prove 1 := ⟨⟨(zw_t (i := 884) (by decide +kernel) rfl), (zw_t (i := 1) (by decide +kernel) rfl), ⟨by decide +kernel, by decide +kernel, by decide +kernel⟩, by decide⟩, (zw_t (i := 882) (by decide +kernel) rfl), (zw_t (i := 883) (by decide +kernel) rfl)⟩
abbrev MX10_row : zO := (RX10, cX10_row, 3, some .int)
theorem kX10_row : zCalV MX10_row yX10_row 2 := ⟨⟨(zw_t (i := 896) (by decide +kernel) rfl), (zw_t (i := 1) (by decide +kernel) rfl), ⟨by decide +kernel, by decide +kernel, by decide +kernel⟩, by decide⟩, (zw_t (i := 894) (by decide +kernel) rfl), (zw_t (i := 895) (by decide +kernel) rfl)⟩
abbrev MX10_alterRow : zO := (RX10, cX10_alterRow, 5, some .int)
theorem kX10_alterRow : zCalV MX10_alterRow yX10_alterRow 3 := ⟨⟨(zw_t (i := 904) (by decide +kernel) rfl), (zw_t (i := 1) (by decide +kernel) rfl), ⟨by decide +kernel, by decide +kernel, by decide +kernel⟩, by decide⟩, (zw_t (i := 902) (by decide +kernel) rfl), (zw_t (i := 903) (by decide +kernel) rfl)⟩
abbrev MX10_judge : zO := (RX10, cX10_judge, 1, some .int)
theorem kX10_judge : zCalV MX10_judge yX10_judge 0 := ⟨⟨(zw_t (i := 908) (by decide +kernel) rfl), (zw_t (i := 1) (by decide +kernel) rfl), ⟨by decide +kernel, by decide +kernel, by decide +kernel⟩, by decide⟩, (zw_t (i := 906) (by decide +kernel) rfl), (zw_t (i := 907) (by decide +kernel) rfl)⟩
abbrev MX10_sheet : zO := (RX10, cX10_sheet, 4, some .int)
theorem kX10_sheet : zCalV MX10_sheet yX10_sheet 3 := ⟨⟨(zw_t (i := 922) (by decide +kernel) rfl), (zw_t (i := 1) (by decide +kernel) rfl), ⟨by decide +kernel, by decide +kernel, by decide +kernel⟩, by decide⟩, (zw_t (i := 920) (by decide +kernel) rfl), (zw_t (i := 921) (by decide +kernel) rfl)⟩
abbrev MX10_write : zO := (RX10, cX10_write, 4, some .int)
theorem kX10_write : zCalV MX10_write yX10_write 3 := ⟨⟨(zw_t (i := 934) (by decide +kernel) rfl), (zw_t (i := 1) (by decide +kernel) rfl), ⟨by decide +kernel, by decide +kernel, by decide +kernel⟩, by decide⟩, (zw_t (i := 932) (by decide +kernel) rfl), (zw_t (i := 933) (by decide +kernel) rfl)⟩
abbrev MX10_item : zO := (RX10, cX10_item, 5, some .int)
theorem kX10_item : zCalV MX10_item yX10_item 3 := ⟨⟨(zw_t (i := 953) (by decide +kernel) rfl), (zw_t (i := 1) (by decide +kernel) rfl), ⟨by decide +kernel, by decide +kernel, by decide +kernel⟩, by decide⟩, (zw_t (i := 951) (by decide +kernel) rfl), (zw_t (i := 952) (by decide +kernel) rfl)⟩
abbrev MX10_goAll : zO := (RX10, cX10_goAll, 5, some .int)
theorem kX10_goAll : zCalV MX10_goAll yX10_goAll 3 := ⟨⟨(zw_t (i := 962) (by decide +kernel) rfl), (zw_t (i := 1) (by decide +kernel) rfl), ⟨by decide +kernel, by decide +kernel, by decide +kernel⟩, by decide⟩, (zw_t (i := 960) (by decide +kernel) rfl), (zw_t (i := 961) (by decide +kernel) rfl)⟩
abbrev MX10_wouldBe : zO := (RX10, cX10_wouldBe, 5, some .int)
theorem kX10_wouldBe : zCalV MX10_wouldBe yX10_wouldBe 3 := ⟨⟨(zw_t (i := 971) (by decide +kernel) rfl), (zw_t (i := 1) (by decide +kernel) rfl), ⟨by decide +kernel, by decide +kernel, by decide +kernel⟩, by decide⟩, (zw_t (i := 969) (by decide +kernel) rfl), (zw_t (i := 970) (by decide +kernel) rfl)⟩
abbrev MX10_shelf : zO := (RX10, cX10_shelf, 4, some .int)
theorem kX10_shelf : zCalV MX10_shelf yX10_shelf 3 := ⟨⟨(zw_t (i := 980) (by decide +kernel) rfl), (zw_t (i := 1) (by decide +kernel) rfl), ⟨by decide +kernel, by decide +kernel, by decide +kernel⟩, by decide⟩, (zw_t (i := 978) (by decide +kernel) rfl), (zw_t (i := 979) (by decide +kernel) rfl)⟩
abbrev MX10_taken : zO := (RX10, cX10_taken, 3, some .int)
theorem kX10_taken : zCalV MX10_taken yX10_taken 2 := ⟨⟨(zw_t (i := 1001) (by decide +kernel) rfl), (zw_t (i := 1) (by decide +kernel) rfl), ⟨by decide +kernel, by decide +kernel, by decide +kernel⟩, by decide⟩, (zw_t (i := 999) (by decide +kernel) rfl), (zw_t (i := 1000) (by decide +kernel) rfl)⟩
abbrev MX10_act : zO := (RX10, cX10_act, 5, some .int)
theorem kX10_act : zCalV MX10_act yX10_act 3 := ⟨⟨(zw_t (i := 1019) (by decide +kernel) rfl), (zw_t (i := 1) (by decide +kernel) rfl), ⟨by decide +kernel, by decide +kernel, by decide +kernel⟩, by decide⟩, (zw_t (i := 1017) (by decide +kernel) rfl), (zw_t (i := 1018) (by decide +kernel) rfl)⟩
abbrev MX10_trace : zO := (RX10, cX10_trace, 2, some .int)
theorem kX10_trace : zCalV MX10_trace yX10_trace 1 := ⟨⟨(zw_t (i := 1052) (by decide +kernel) rfl), (zw_t (i := 1) (by decide +kernel) rfl), ⟨by decide +kernel, by decide +kernel, by decide +kernel⟩, by decide⟩, (zw_t (i := 1050) (by decide +kernel) rfl), (zw_t (i := 1051) (by decide +kernel) rfl)⟩
abbrev MX10_many : zO := (RX10, cX10_many, 2, some .int)
theorem kX10_many : zCalV MX10_many yX10_many 1 := ⟨⟨(zw_t (i := 1056) (by decide +kernel) rfl), (zw_t (i := 1) (by decide +kernel) rfl), ⟨by decide +kernel, by decide +kernel, by decide +kernel⟩, by decide⟩, (zw_t (i := 1054) (by decide +kernel) rfl), (zw_t (i := 1055) (by decide +kernel) rfl)⟩
abbrev MX10_keep : zO := (RX10, cX10_keep, 1, some .int)
theorem kX10_keep : zCalV MX10_keep yX10_keep 0 := ⟨⟨(zw_t (i := 1060) (by decide +kernel) rfl), (zw_t (i := 1) (by decide +kernel) rfl), ⟨by decide +kernel, by decide +kernel, by decide +kernel⟩, by decide⟩, (zw_t (i := 1058) (by decide +kernel) rfl), (zw_t (i := 1059) (by decide +kernel) rfl)⟩
abbrev MX10_again : zO := (RX10, cX10_again, 1, some .int)
theorem kX10_again : zCalV MX10_again yX10_again 0 := ⟨⟨(zw_t (i := 1070) (by decide +kernel) rfl), (zw_t (i := 1) (by decide +kernel) rfl), ⟨by decide +kernel, by decide +kernel, by decide +kernel⟩, by decide⟩, (zw_t (i := 1068) (by decide +kernel) rfl), (zw_t (i := 1069) (by decide +kernel) rfl)⟩
abbrev MX10_goByItems : zO := (RX10, cX10_goByItems, 7, some .int)
theorem kX10_goByItems : zCalV MX10_goByItems yX10_goByItems 3 := ⟨⟨(zw_t (i := 966) (by decide +kernel) rfl), (zw_t (i := 1) (by decide +kernel) rfl), ⟨by decide +kernel, by decide +kernel, by decide +kernel⟩, by decide⟩, (zw_t (i := 965) (by decide +kernel) rfl), (zw_p (i := 18) (by decide +kernel) rfl)⟩
abbrev MX10_worthOfItems : zO := (RX10, cX10_worthOfItems, 7, some .int)
theorem kX10_worthOfItems : zCalV MX10_worthOfItems yX10_worthOfItems 3 := ⟨⟨(zw_t (i := 975) (by decide +kernel) rfl), (zw_t (i := 1) (by decide +kernel) rfl), ⟨by decide +kernel, by decide +kernel, by decide +kernel⟩, by decide⟩, (zw_t (i := 974) (by decide +kernel) rfl), (zw_p (i := 19) (by decide +kernel) rfl)⟩
abbrev MX10_isIn : zO := (RX10, cX10_isIn, 3, some .boolean)
theorem kX10_isIn : zCalS MX10_isIn yX10_isIn 3 := ⟨⟨(zw_t (i := 393) (by decide +kernel) rfl), (zw_t (i := 1) (by decide +kernel) rfl), ⟨by decide +kernel, by decide +kernel, by decide +kernel⟩, by decide⟩, (zw_t (i := 392) (by decide +kernel) rfl)⟩
abbrev MX10_isLampKind : zO := (RX10, cX10_isLampKind, 1, some .boolean)
theorem kX10_isLampKind : zCalS MX10_isLampKind yX10_isLampKind 1 := ⟨⟨(zw_t (i := 390) (by decide +kernel) rfl), (zw_t (i := 1) (by decide +kernel) rfl), ⟨by decide +kernel, by decide +kernel, by decide +kernel⟩, by decide⟩, (zw_t (i := 389) (by decide +kernel) rfl)⟩
abbrev MX10_fits : zO := (RX10, cX10_fits, 2, some .boolean)
theorem kX10_fits : zCalS MX10_fits yX10_fits 2 := ⟨⟨(zw_t (i := 396) (by decide +kernel) rfl), (zw_t (i := 1) (by decide +kernel) rfl), ⟨by decide +kernel, by decide +kernel, by decide +kernel⟩, by decide⟩, (zw_t (i := 395) (by decide +kernel) rfl)⟩
abbrev MX11_init : zO := (RX11, cX11_init, 1, none)
theorem kX11_init : zCal MX11_init yX11_init 0 := ⟨(zw_t (i := 1075) (by decide +kernel) rfl), (zw_t (i := 12) (by decide +kernel) rfl), ⟨by decide +kernel, by decide +kernel, by decide +kernel⟩, by decide⟩
abbrev MX11_isIn : zO := (RX11, cX11_isIn, 6, some .boolean)
theorem kX11_isIn : zCalS MX11_isIn yX11_isIn 3 := ⟨⟨(zw_t (i := 1207) (by decide +kernel) rfl), (zw_t (i := 12) (by decide +kernel) rfl), ⟨by decide +kernel, by decide +kernel, by decide +kernel⟩, by decide⟩, (zw_t (i := 1206) (by decide +kernel) rfl)⟩
abbrev MX11_within : zO := (RX11, cX11_within, 3, some .int)
theorem kX11_within : zCalS MX11_within yX11_within 3 := ⟨⟨(zw_t (i := 1257) (by decide +kernel) rfl), (zw_t (i := 12) (by decide +kernel) rfl), ⟨by decide +kernel, by decide +kernel, by decide +kernel⟩, by decide⟩, (zw_t (i := 1256) (by decide +kernel) rfl)⟩
abbrev MX11_far : zO := (RX11, cX11_far, 1, some .int)
theorem kX11_far : zCalS MX11_far yX11_far 1 := ⟨⟨(zw_t (i := 1432) (by decide +kernel) rfl), (zw_t (i := 12) (by decide +kernel) rfl), ⟨by decide +kernel, by decide +kernel, by decide +kernel⟩, by decide⟩, (zw_t (i := 1431) (by decide +kernel) rfl)⟩
abbrev MX11_over : zO := (RX11, cX11_over, 3, none)
theorem kX11_over : zCalS MX11_over yX11_over 2 := ⟨⟨(zw_t (i := 1318) (by decide +kernel) rfl), (zw_t (i := 12) (by decide +kernel) rfl), ⟨by decide +kernel, by decide +kernel, by decide +kernel⟩, by decide⟩, (zw_t (i := 1317) (by decide +kernel) rfl)⟩
abbrev MX11_becomes : zO := (RX11, cX11_becomes, 4, some .int)
theorem kX11_becomes : zCalV MX11_becomes yX11_becomes 2 := ⟨⟨(zw_t (i := 1277) (by decide +kernel) rfl), (zw_t (i := 12) (by decide +kernel) rfl), ⟨by decide +kernel, by decide +kernel, by decide +kernel⟩, by decide⟩, (zw_t (i := 1276) (by decide +kernel) rfl), (zw_p (i := 36) (by decide +kernel) rfl)⟩
abbrev MX11_isLamp : zO := (RX11, cX11_isLamp, 2, some .boolean)
theorem kX11_isLamp : zCalV MX11_isLamp yX11_isLamp 1 := ⟨⟨(zw_t (i := 1220) (by decide +kernel) rfl), (zw_t (i := 12) (by decide +kernel) rfl), ⟨by decide +kernel, by decide +kernel, by decide +kernel⟩, by decide⟩, (zw_t (i := 1219) (by decide +kernel) rfl), (zw_p (i := 25) (by decide +kernel) rfl)⟩
abbrev MX11_of : zO := (RX11, cX11_of, 3, some .int)
theorem kX11_of : zCalV MX11_of yX11_of 2 := ⟨⟨(zw_t (i := 1224) (by decide +kernel) rfl), (zw_t (i := 12) (by decide +kernel) rfl), ⟨by decide +kernel, by decide +kernel, by decide +kernel⟩, by decide⟩, (zw_t (i := 1223) (by decide +kernel) rfl), (zw_p (i := 26) (by decide +kernel) rfl)⟩
abbrev MX11_isOver : zO := (RX11, cX11_isOver, 1, some .boolean)
theorem kX11_isOver : zCalV MX11_isOver yX11_isOver 0 := ⟨⟨(zw_t (i := 1261) (by decide +kernel) rfl), (zw_t (i := 12) (by decide +kernel) rfl), ⟨by decide +kernel, by decide +kernel, by decide +kernel⟩, by decide⟩, (zw_t (i := 1260) (by decide +kernel) rfl), (zw_p (i := 33) (by decide +kernel) rfl)⟩
abbrev MX11_isUnder : zO := (RX11, cX11_isUnder, 2, some .boolean)
theorem kX11_isUnder : zCalS MX11_isUnder yX11_isUnder 2 := ⟨⟨(zw_t (i := 1231) (by decide +kernel) rfl), (zw_t (i := 12) (by decide +kernel) rfl), ⟨by decide +kernel, by decide +kernel, by decide +kernel⟩, by decide⟩, (zw_t (i := 1230) (by decide +kernel) rfl)⟩
abbrev MX11_isTold : zO := (RX11, cX11_isTold, 2, some .boolean)
theorem kX11_isTold : zCalS MX11_isTold yX11_isTold 2 := ⟨⟨(zw_t (i := 1210) (by decide +kernel) rfl), (zw_t (i := 12) (by decide +kernel) rfl), ⟨by decide +kernel, by decide +kernel, by decide +kernel⟩, by decide⟩, (zw_t (i := 1209) (by decide +kernel) rfl)⟩
abbrev MX11_lamp : zO := (RX11, cX11_lamp, 6, some .int)
theorem kX11_lamp : zCalV MX11_lamp yX11_lamp 4 := ⟨⟨(zw_t (i := 1203) (by decide +kernel) rfl), (zw_t (i := 12) (by decide +kernel) rfl), ⟨by decide +kernel, by decide +kernel, by decide +kernel⟩, by decide⟩, (zw_t (i := 1201) (by decide +kernel) rfl), (zw_t (i := 1202) (by decide +kernel) rfl)⟩
abbrev MX11_lampOf : zO := (RX11, cX11_lampOf, 3, some .int)
theorem kX11_lampOf : zCalV MX11_lampOf yX11_lampOf 2 := ⟨⟨(zw_t (i := 1216) (by decide +kernel) rfl), (zw_t (i := 12) (by decide +kernel) rfl), ⟨by decide +kernel, by decide +kernel, by decide +kernel⟩, by decide⟩, (zw_t (i := 1214) (by decide +kernel) rfl), (zw_t (i := 1215) (by decide +kernel) rfl)⟩
abbrev MX11_change : zO := (RX11, cX11_change, 4, some .int)
theorem kX11_change : zCalV MX11_change yX11_change 3 := ⟨⟨(zw_t (i := 1273) (by decide +kernel) rfl), (zw_t (i := 12) (by decide +kernel) rfl), ⟨by decide +kernel, by decide +kernel, by decide +kernel⟩, by decide⟩, (zw_t (i := 1271) (by decide +kernel) rfl), (zw_t (i := 1272) (by decide +kernel) rfl)⟩
abbrev MX11_remake : zO := (RX11, cX11_remake, 3, some .int)
theorem kX11_remake : zCalV MX11_remake yX11_remake 2 := ⟨⟨(zw_t (i := 1281) (by decide +kernel) rfl), (zw_t (i := 12) (by decide +kernel) rfl), ⟨by decide +kernel, by decide +kernel, by decide +kernel⟩, by decide⟩, (zw_t (i := 1279) (by decide +kernel) rfl), (zw_t (i := 1280) (by decide +kernel) rfl)⟩
abbrev MX11_dance : zO := (RX11, cX11_dance, 2, some .int)
theorem kX11_dance : zCalV MX11_dance yX11_dance 1 := ⟨⟨(zw_t (i := 1285) (by decide +kernel) rfl), (zw_t (i := 12) (by decide +kernel) rfl), ⟨by decide +kernel, by decide +kernel, by decide +kernel⟩, by decide⟩, (zw_t (i := 1283) (by decide +kernel) rfl), (zw_t (i := 1284) (by decide +kernel) rfl)⟩
abbrev MX11_isBeat : zO := (RX11, cX11_isBeat, 2, some .boolean)
theorem kX11_isBeat : zCalV MX11_isBeat yX11_isBeat 1 := ⟨⟨(zw_t (i := 1293) (by decide +kernel) rfl), (zw_t (i := 12) (by decide +kernel) rfl), ⟨by decide +kernel, by decide +kernel, by decide +kernel⟩, by decide⟩, (zw_t (i := 1292) (by decide +kernel) rfl), (zw_p (i := 37) (by decide +kernel) rfl)⟩
abbrev MX11_danceOf : zO := (RX11, cX11_danceOf, 2, some .int)
theorem kX11_danceOf : zCalV MX11_danceOf yX11_danceOf 1 := ⟨⟨(zw_t (i := 1289) (by decide +kernel) rfl), (zw_t (i := 12) (by decide +kernel) rfl), ⟨by decide +kernel, by decide +kernel, by decide +kernel⟩, by decide⟩, (zw_t (i := 1287) (by decide +kernel) rfl), (zw_t (i := 1288) (by decide +kernel) rfl)⟩
abbrev MX11_steps : zO := (RX11, cX11_steps, 3, some .int)
theorem kX11_steps : zCalV MX11_steps yX11_steps 2 := ⟨⟨(zw_t (i := 1297) (by decide +kernel) rfl), (zw_t (i := 12) (by decide +kernel) rfl), ⟨by decide +kernel, by decide +kernel, by decide +kernel⟩, by decide⟩, (zw_t (i := 1295) (by decide +kernel) rfl), (zw_t (i := 1296) (by decide +kernel) rfl)⟩
abbrev MX11_anew : zO := (RX11, cX11_anew, 1, some .int)
theorem kX11_anew : zCalV MX11_anew yX11_anew 0 := ⟨⟨(zw_t (i := 1301) (by decide +kernel) rfl), (zw_t (i := 12) (by decide +kernel) rfl), ⟨by decide +kernel, by decide +kernel, by decide +kernel⟩, by decide⟩, (zw_t (i := 1299) (by decide +kernel) rfl), (zw_t (i := 1300) (by decide +kernel) rfl)⟩
abbrev MX11_state : zO := (RX11, cX11_state, 2, some .int)
theorem kX11_state : zCalV MX11_state yX11_state 1 := ⟨⟨(zw_t (i := 1305) (by decide +kernel) rfl), (zw_t (i := 12) (by decide +kernel) rfl), ⟨by decide +kernel, by decide +kernel, by decide +kernel⟩, by decide⟩, (zw_t (i := 1303) (by decide +kernel) rfl), (zw_t (i := 1304) (by decide +kernel) rfl)⟩
abbrev MX11_seenAt : zO := (RX11, cX11_seenAt, 1, some .int)
theorem kX11_seenAt : zCalV MX11_seenAt yX11_seenAt 0 := ⟨⟨(zw_t (i := 1247) (by decide +kernel) rfl), (zw_t (i := 12) (by decide +kernel) rfl), ⟨by decide +kernel, by decide +kernel, by decide +kernel⟩, by decide⟩, (zw_t (i := 1246) (by decide +kernel) rfl), (zw_p (i := 31) (by decide +kernel) rfl)⟩
abbrev MX11_seen : zO := (RX11, cX11_seen, 1, some .int)
theorem kX11_seen : zCalV MX11_seen yX11_seen 0 := ⟨⟨(zw_t (i := 1243) (by decide +kernel) rfl), (zw_t (i := 12) (by decide +kernel) rfl), ⟨by decide +kernel, by decide +kernel, by decide +kernel⟩, by decide⟩, (zw_t (i := 1242) (by decide +kernel) rfl), (zw_p (i := 30) (by decide +kernel) rfl)⟩
abbrev MX11_danceAt : zO := (RX11, cX11_danceAt, 2, some .int)
theorem kX11_danceAt : zCalV MX11_danceAt yX11_danceAt 1 := ⟨⟨(zw_t (i := 1254) (by decide +kernel) rfl), (zw_t (i := 12) (by decide +kernel) rfl), ⟨by decide +kernel, by decide +kernel, by decide +kernel⟩, by decide⟩, (zw_t (i := 1253) (by decide +kernel) rfl), (zw_p (i := 32) (by decide +kernel) rfl)⟩
abbrev MX11_goalOf : zO := (RX11, cX11_goalOf, 5, some .int)
theorem kX11_goalOf : zCalV MX11_goalOf yX11_goalOf 1 := ⟨⟨(zw_t (i := 1228) (by decide +kernel) rfl), (zw_t (i := 12) (by decide +kernel) rfl), ⟨by decide +kernel, by decide +kernel, by decide +kernel⟩, by decide⟩, (zw_t (i := 1227) (by decide +kernel) rfl), (zw_p (i := 27) (by decide +kernel) rfl)⟩
abbrev MX11_goesBy : zO := (RX11, cX11_goesBy, 7, some .int)
theorem kX11_goesBy : zCalV MX11_goesBy yX11_goesBy 2 := ⟨⟨(zw_t (i := 1269) (by decide +kernel) rfl), (zw_t (i := 12) (by decide +kernel) rfl), ⟨by decide +kernel, by decide +kernel, by decide +kernel⟩, by decide⟩, (zw_t (i := 1268) (by decide +kernel) rfl), (zw_p (i := 35) (by decide +kernel) rfl)⟩
abbrev MX11_aimBehind : zO := (RX11, cX11_aimBehind, 3, some .int)
theorem kX11_aimBehind : zCalV MX11_aimBehind yX11_aimBehind 1 := ⟨⟨(zw_t (i := 1265) (by decide +kernel) rfl), (zw_t (i := 12) (by decide +kernel) rfl), ⟨by decide +kernel, by decide +kernel, by decide +kernel⟩, by decide⟩, (zw_t (i := 1264) (by decide +kernel) rfl), (zw_p (i := 34) (by decide +kernel) rfl)⟩
abbrev MX11_sightBy : zO := (RX11, cX11_sightBy, 4, some .int)
theorem kX11_sightBy : zCalS MX11_sightBy yX11_sightBy 3 := ⟨⟨(zw_t (i := 1429) (by decide +kernel) rfl), (zw_t (i := 12) (by decide +kernel) rfl), ⟨by decide +kernel, by decide +kernel, by decide +kernel⟩, by decide⟩, (zw_t (i := 1428) (by decide +kernel) rfl)⟩
abbrev MX11_sight : zO := (RX11, cX11_sight, 3, some .int)
theorem kX11_sight : zCalV MX11_sight yX11_sight 2 := ⟨⟨(zw_t (i := 1426) (by decide +kernel) rfl), (zw_t (i := 12) (by decide +kernel) rfl), ⟨by decide +kernel, by decide +kernel, by decide +kernel⟩, by decide⟩, (zw_t (i := 1425) (by decide +kernel) rfl), (zw_p (i := 58) (by decide +kernel) rfl)⟩
abbrev MX11_worth : zO := (RX11, cX11_worth, 4, some .int)
theorem kX11_worth : zCalV MX11_worth yX11_worth 2 := ⟨⟨(zw_t (i := 1422) (by decide +kernel) rfl), (zw_t (i := 12) (by decide +kernel) rfl), ⟨by decide +kernel, by decide +kernel, by decide +kernel⟩, by decide⟩, (zw_t (i := 1421) (by decide +kernel) rfl), (zw_p (i := 57) (by decide +kernel) rfl)⟩
abbrev MX11_worthOfAll : zO := (RX11, cX11_worthOfAll, 4, some .int)
theorem kX11_worthOfAll : zCalV MX11_worthOfAll yX11_worthOfAll 1 := ⟨⟨(zw_t (i := 1418) (by decide +kernel) rfl), (zw_t (i := 12) (by decide +kernel) rfl), ⟨by decide +kernel, by decide +kernel, by decide +kernel⟩, by decide⟩, (zw_t (i := 1417) (by decide +kernel) rfl), (zw_p (i := 56) (by decide +kernel) rfl)⟩
abbrev MX11_setOf : zO := (RX11, cX11_setOf, 5, some .int)
theorem kX11_setOf : zCalV MX11_setOf yX11_setOf 2 := ⟨⟨(zw_t (i := 1441) (by decide +kernel) rfl), (zw_t (i := 12) (by decide +kernel) rfl), ⟨by decide +kernel, by decide +kernel, by decide +kernel⟩, by decide⟩, (zw_t (i := 1440) (by decide +kernel) rfl), (zw_p (i := 59) (by decide +kernel) rfl)⟩
abbrev MX11_goes : zO := (RX11, cX11_goes, 3, some .int)
theorem kX11_goes : zCalV MX11_goes yX11_goes 1 := ⟨⟨(zw_t (i := 1414) (by decide +kernel) rfl), (zw_t (i := 12) (by decide +kernel) rfl), ⟨by decide +kernel, by decide +kernel, by decide +kernel⟩, by decide⟩, (zw_t (i := 1413) (by decide +kernel) rfl), (zw_p (i := 55) (by decide +kernel) rfl)⟩
abbrev MX11_fact : zO := (RX11, cX11_fact, 3, some .int)
theorem kX11_fact : zCalV MX11_fact yX11_fact 2 := ⟨⟨(zw_t (i := 1239) (by decide +kernel) rfl), (zw_t (i := 12) (by decide +kernel) rfl), ⟨by decide +kernel, by decide +kernel, by decide +kernel⟩, by decide⟩, (zw_t (i := 1238) (by decide +kernel) rfl), (zw_p (i := 29) (by decide +kernel) rfl)⟩
abbrev MX11_joined : zO := (RX11, cX11_joined, 4, some .boolean)
theorem kX11_joined : zCalS MX11_joined yX11_joined 4 := ⟨⟨(zw_t (i := 1250) (by decide +kernel) rfl), (zw_t (i := 12) (by decide +kernel) rfl), ⟨by decide +kernel, by decide +kernel, by decide +kernel⟩, by decide⟩, (zw_t (i := 1249) (by decide +kernel) rfl)⟩
abbrev MX11_holds : zO := (RX11, cX11_holds, 9, some .boolean)
theorem kX11_holds : zCalV MX11_holds yX11_holds 2 := ⟨⟨(zw_t (i := 1235) (by decide +kernel) rfl), (zw_t (i := 12) (by decide +kernel) rfl), ⟨by decide +kernel, by decide +kernel, by decide +kernel⟩, by decide⟩, (zw_t (i := 1234) (by decide +kernel) rfl), (zw_p (i := 28) (by decide +kernel) rfl)⟩
abbrev MX11_feed : zO := (RX11, cX11_feed, 5, some .int)
theorem kX11_feed : zCalV MX11_feed yX11_feed 2 := ⟨⟨(zw_t (i := 1309) (by decide +kernel) rfl), (zw_t (i := 12) (by decide +kernel) rfl), ⟨by decide +kernel, by decide +kernel, by decide +kernel⟩, by decide⟩, (zw_t (i := 1307) (by decide +kernel) rfl), (zw_t (i := 1308) (by decide +kernel) rfl)⟩
abbrev MX11_isLetter : zO := (RX11, cX11_isLetter, 2, some .boolean)
theorem kX11_isLetter : zCalV MX11_isLetter yX11_isLetter 1 := ⟨⟨(zw_t (i := 1326) (by decide +kernel) rfl), (zw_t (i := 12) (by decide +kernel) rfl), ⟨by decide +kernel, by decide +kernel, by decide +kernel⟩, by decide⟩, (zw_t (i := 1325) (by decide +kernel) rfl), (zw_p (i := 39) (by decide +kernel) rfl)⟩
abbrev MX11_isDigit : zO := (RX11, cX11_isDigit, 2, some .boolean)
theorem kX11_isDigit : zCalV MX11_isDigit yX11_isDigit 1 := ⟨⟨(zw_t (i := 1330) (by decide +kernel) rfl), (zw_t (i := 12) (by decide +kernel) rfl), ⟨by decide +kernel, by decide +kernel, by decide +kernel⟩, by decide⟩, (zw_t (i := 1329) (by decide +kernel) rfl), (zw_p (i := 40) (by decide +kernel) rfl)⟩
abbrev MX11_look : zO := (RX11, cX11_look, 1, none)
theorem kX11_look : zCalV MX11_look yX11_look 0 := ⟨⟨(zw_t (i := 1322) (by decide +kernel) rfl), (zw_t (i := 12) (by decide +kernel) rfl), ⟨by decide +kernel, by decide +kernel, by decide +kernel⟩, by decide⟩, (zw_t (i := 1321) (by decide +kernel) rfl), (zw_p (i := 38) (by decide +kernel) rfl)⟩
abbrev MX11_wrong : zO := (RX11, cX11_wrong, 1, some .boolean)
theorem kX11_wrong : zCalV MX11_wrong yX11_wrong 0 := ⟨⟨(zw_t (i := 1354) (by decide +kernel) rfl), (zw_t (i := 12) (by decide +kernel) rfl), ⟨by decide +kernel, by decide +kernel, by decide +kernel⟩, by decide⟩, (zw_t (i := 1353) (by decide +kernel) rfl), (zw_p (i := 44) (by decide +kernel) rfl)⟩
abbrev MX11_isName : zO := (RX11, cX11_isName, 4, some .boolean)
theorem kX11_isName : zCalV MX11_isName yX11_isName 1 := ⟨⟨(zw_t (i := 1343) (by decide +kernel) rfl), (zw_t (i := 12) (by decide +kernel) rfl), ⟨by decide +kernel, by decide +kernel, by decide +kernel⟩, by decide⟩, (zw_t (i := 1342) (by decide +kernel) rfl), (zw_p (i := 43) (by decide +kernel) rfl)⟩
abbrev MX11_isSign : zO := (RX11, cX11_isSign, 2, some .boolean)
theorem kX11_isSign : zCalV MX11_isSign yX11_isSign 1 := ⟨⟨(zw_t (i := 1372) (by decide +kernel) rfl), (zw_t (i := 12) (by decide +kernel) rfl), ⟨by decide +kernel, by decide +kernel, by decide +kernel⟩, by decide⟩, (zw_t (i := 1371) (by decide +kernel) rfl), (zw_p (i := 48) (by decide +kernel) rfl)⟩
abbrev MX11_lays : zO := (RX11, cX11_lays, 3, none)
theorem kX11_lays : zCalV MX11_lays yX11_lays 2 := ⟨⟨(zw_t (i := 1397) (by decide +kernel) rfl), (zw_t (i := 12) (by decide +kernel) rfl), ⟨by decide +kernel, by decide +kernel, by decide +kernel⟩, by decide⟩, (zw_t (i := 1396) (by decide +kernel) rfl), (zw_p (i := 53) (by decide +kernel) rfl)⟩
abbrev MX11_kindHere : zO := (RX11, cX11_kindHere, 1, some .int)
theorem kX11_kindHere : zCalV MX11_kindHere yX11_kindHere 0 := ⟨⟨(zw_t (i := 1338) (by decide +kernel) rfl), (zw_t (i := 12) (by decide +kernel) rfl), ⟨by decide +kernel, by decide +kernel, by decide +kernel⟩, by decide⟩, (zw_t (i := 1337) (by decide +kernel) rfl), (zw_p (i := 42) (by decide +kernel) rfl)⟩
abbrev MX11_factHere : zO := (RX11, cX11_factHere, 1, some .int)
theorem kX11_factHere : zCalV MX11_factHere yX11_factHere 0 := ⟨⟨(zw_t (i := 1388) (by decide +kernel) rfl), (zw_t (i := 12) (by decide +kernel) rfl), ⟨by decide +kernel, by decide +kernel, by decide +kernel⟩, by decide⟩, (zw_t (i := 1387) (by decide +kernel) rfl), (zw_p (i := 52) (by decide +kernel) rfl)⟩
abbrev MX11_takesValue : zO := (RX11, cX11_takesValue, 2, some .boolean)
theorem kX11_takesValue : zCalV MX11_takesValue yX11_takesValue 0 := ⟨⟨(zw_t (i := 1384) (by decide +kernel) rfl), (zw_t (i := 12) (by decide +kernel) rfl), ⟨by decide +kernel, by decide +kernel, by decide +kernel⟩, by decide⟩, (zw_t (i := 1383) (by decide +kernel) rfl), (zw_p (i := 51) (by decide +kernel) rfl)⟩
abbrev MX11_takesTest : zO := (RX11, cX11_takesTest, 2, some .boolean)
theorem kX11_takesTest : zCalV MX11_takesTest yX11_takesTest 0 := ⟨⟨(zw_t (i := 1380) (by decide +kernel) rfl), (zw_t (i := 12) (by decide +kernel) rfl), ⟨by decide +kernel, by decide +kernel, by decide +kernel⟩, by decide⟩, (zw_t (i := 1379) (by decide +kernel) rfl), (zw_p (i := 50) (by decide +kernel) rfl)⟩
abbrev MX11_takesOpen : zO := (RX11, cX11_takesOpen, 1, some .boolean)
theorem kX11_takesOpen : zCalV MX11_takesOpen yX11_takesOpen 0 := ⟨⟨(zw_t (i := 1376) (by decide +kernel) rfl), (zw_t (i := 12) (by decide +kernel) rfl), ⟨by decide +kernel, by decide +kernel, by decide +kernel⟩, by decide⟩, (zw_t (i := 1375) (by decide +kernel) rfl), (zw_p (i := 49) (by decide +kernel) rfl)⟩
abbrev MX11_takesOne : zO := (RX11, cX11_takesOne, 4, some .boolean)
theorem kX11_takesOne : zCalV MX11_takesOne yX11_takesOne 0 := ⟨⟨(zw_t (i := 1367) (by decide +kernel) rfl), (zw_t (i := 12) (by decide +kernel) rfl), ⟨by decide +kernel, by decide +kernel, by decide +kernel⟩, by decide⟩, (zw_t (i := 1366) (by decide +kernel) rfl), (zw_p (i := 47) (by decide +kernel) rfl)⟩
abbrev MX11_takesAll : zO := (RX11, cX11_takesAll, 2, some .boolean)
theorem kX11_takesAll : zCalV MX11_takesAll yX11_takesAll 0 := ⟨⟨(zw_t (i := 1363) (by decide +kernel) rfl), (zw_t (i := 12) (by decide +kernel) rfl), ⟨by decide +kernel, by decide +kernel, by decide +kernel⟩, by decide⟩, (zw_t (i := 1362) (by decide +kernel) rfl), (zw_p (i := 46) (by decide +kernel) rfl)⟩
abbrev MX11_takesCondition : zO := (RX11, cX11_takesCondition, 2, some .boolean)
theorem kX11_takesCondition : zCalV MX11_takesCondition yX11_takesCondition 0 := ⟨⟨(zw_t (i := 1359) (by decide +kernel) rfl), (zw_t (i := 12) (by decide +kernel) rfl), ⟨by decide +kernel, by decide +kernel, by decide +kernel⟩, by decide⟩, (zw_t (i := 1358) (by decide +kernel) rfl), (zw_p (i := 45) (by decide +kernel) rfl)⟩
abbrev MX11_takesDo : zO := (RX11, cX11_takesDo, 3, some .boolean)
theorem kX11_takesDo : zCalV MX11_takesDo yX11_takesDo 1 := ⟨⟨(zw_t (i := 1403) (by decide +kernel) rfl), (zw_t (i := 12) (by decide +kernel) rfl), ⟨by decide +kernel, by decide +kernel, by decide +kernel⟩, by decide⟩, (zw_t (i := 1402) (by decide +kernel) rfl), (zw_p (i := 54) (by decide +kernel) rfl)⟩
abbrev MX11_takesRule : zO := (RX11, cX11_takesRule, 3, some .boolean)
theorem kX11_takesRule : zCalV MX11_takesRule yX11_takesRule 0 := ⟨⟨(zw_t (i := 1334) (by decide +kernel) rfl), (zw_t (i := 12) (by decide +kernel) rfl), ⟨by decide +kernel, by decide +kernel, by decide +kernel⟩, by decide⟩, (zw_t (i := 1333) (by decide +kernel) rfl), (zw_p (i := 41) (by decide +kernel) rfl)⟩
abbrev MX11_rules : zO := (RX11, cX11_rules, 2, some .int)
theorem kX11_rules : zCalV MX11_rules yX11_rules 0 := ⟨⟨(zw_t (i := 1315) (by decide +kernel) rfl), (zw_t (i := 12) (by decide +kernel) rfl), ⟨by decide +kernel, by decide +kernel, by decide +kernel⟩, by decide⟩, (zw_t (i := 1313) (by decide +kernel) rfl), (zw_t (i := 1314) (by decide +kernel) rfl)⟩
abbrev MX11_beat : zO := (RX11, cX11_beat, 1, some .int)
theorem kX11_beat : zCalV MX11_beat yX11_beat 0 := ⟨⟨(zw_t (i := 1410) (by decide +kernel) rfl), (zw_t (i := 12) (by decide +kernel) rfl), ⟨by decide +kernel, by decide +kernel, by decide +kernel⟩, by decide⟩, (zw_t (i := 1408) (by decide +kernel) rfl), (zw_t (i := 1409) (by decide +kernel) rfl)⟩
abbrev MX11_in : zO := (RX11, cX11_in, 2, some .int)
theorem kX11_in : zCalV MX11_in yX11_in 1 := ⟨⟨(zw_t (i := 1436) (by decide +kernel) rfl), (zw_t (i := 12) (by decide +kernel) rfl), ⟨by decide +kernel, by decide +kernel, by decide +kernel⟩, by decide⟩, (zw_t (i := 1434) (by decide +kernel) rfl), (zw_t (i := 1435) (by decide +kernel) rfl)⟩
abbrev MX11_saves : zO := (RX11, cX11_saves, 3, none)
theorem kX11_saves : zCalV MX11_saves yX11_saves 1 := ⟨⟨(zw_t (i := 1453) (by decide +kernel) rfl), (zw_t (i := 12) (by decide +kernel) rfl), ⟨by decide +kernel, by decide +kernel, by decide +kernel⟩, by decide⟩, (zw_t (i := 1452) (by decide +kernel) rfl), (zw_p (i := 61) (by decide +kernel) rfl)⟩
abbrev MX11_putsBack : zO := (RX11, cX11_putsBack, 3, none)
theorem kX11_putsBack : zCalV MX11_putsBack yX11_putsBack 1 := ⟨⟨(zw_t (i := 1457) (by decide +kernel) rfl), (zw_t (i := 12) (by decide +kernel) rfl), ⟨by decide +kernel, by decide +kernel, by decide +kernel⟩, by decide⟩, (zw_t (i := 1456) (by decide +kernel) rfl), (zw_p (i := 62) (by decide +kernel) rfl)⟩
abbrev MX11_showsIt : zO := (RX11, cX11_showsIt, 5, some .int)
theorem kX11_showsIt : zCalV MX11_showsIt yX11_showsIt 1 := ⟨⟨(zw_t (i := 1449) (by decide +kernel) rfl), (zw_t (i := 12) (by decide +kernel) rfl), ⟨by decide +kernel, by decide +kernel, by decide +kernel⟩, by decide⟩, (zw_t (i := 1448) (by decide +kernel) rfl), (zw_p (i := 60) (by decide +kernel) rfl)⟩
abbrev MX11_shows : zO := (RX11, cX11_shows, 2, some .int)
theorem kX11_shows : zCalV MX11_shows yX11_shows 1 := ⟨⟨(zw_t (i := 1445) (by decide +kernel) rfl), (zw_t (i := 12) (by decide +kernel) rfl), ⟨by decide +kernel, by decide +kernel, by decide +kernel⟩, by decide⟩, (zw_t (i := 1443) (by decide +kernel) rfl), (zw_t (i := 1444) (by decide +kernel) rfl)⟩
abbrev MX11_on : zO := (RX11, cX11_on, 4, some .int)
theorem kX11_on : zCalV MX11_on yX11_on 1 := ⟨⟨(zw_t (i := 1461) (by decide +kernel) rfl), (zw_t (i := 12) (by decide +kernel) rfl), ⟨by decide +kernel, by decide +kernel, by decide +kernel⟩, by decide⟩, (zw_t (i := 1459) (by decide +kernel) rfl), (zw_t (i := 1460) (by decide +kernel) rfl)⟩
abbrev MX11_lostAt : zO := (RX11, cX11_lostAt, 5, some .int)
theorem kX11_lostAt : zCalV MX11_lostAt yX11_lostAt 1 := ⟨⟨(zw_t (i := 1470) (by decide +kernel) rfl), (zw_t (i := 12) (by decide +kernel) rfl), ⟨by decide +kernel, by decide +kernel, by decide +kernel⟩, by decide⟩, (zw_t (i := 1469) (by decide +kernel) rfl), (zw_p (i := 63) (by decide +kernel) rfl)⟩
abbrev MX11_lost : zO := (RX11, cX11_lost, 2, some .int)
theorem kX11_lost : zCalV MX11_lost yX11_lost 1 := ⟨⟨(zw_t (i := 1466) (by decide +kernel) rfl), (zw_t (i := 12) (by decide +kernel) rfl), ⟨by decide +kernel, by decide +kernel, by decide +kernel⟩, by decide⟩, (zw_t (i := 1464) (by decide +kernel) rfl), (zw_t (i := 1465) (by decide +kernel) rfl)⟩
abbrev MX11_crosses : zO := (RX11, cX11_crosses, 7, some .int)
theorem kX11_crosses : zCalV MX11_crosses yX11_crosses 2 := ⟨⟨(zw_t (i := 1474) (by decide +kernel) rfl), (zw_t (i := 12) (by decide +kernel) rfl), ⟨by decide +kernel, by decide +kernel, by decide +kernel⟩, by decide⟩, (zw_t (i := 1472) (by decide +kernel) rfl), (zw_t (i := 1473) (by decide +kernel) rfl)⟩
abbrev MX11_bestOf : zO := (RX11, cX11_bestOf, 9, some .int)
theorem kX11_bestOf : zCalV MX11_bestOf yX11_bestOf 3 := ⟨⟨(zw_t (i := 1482) (by decide +kernel) rfl), (zw_t (i := 12) (by decide +kernel) rfl), ⟨by decide +kernel, by decide +kernel, by decide +kernel⟩, by decide⟩, (zw_t (i := 1481) (by decide +kernel) rfl), (zw_p (i := 64) (by decide +kernel) rfl)⟩
abbrev MX11_sized : zO := (RX11, cX11_sized, 2, some .int)
theorem kX11_sized : zCalV MX11_sized yX11_sized 1 := ⟨⟨(zw_t (i := 1478) (by decide +kernel) rfl), (zw_t (i := 12) (by decide +kernel) rfl), ⟨by decide +kernel, by decide +kernel, by decide +kernel⟩, by decide⟩, (zw_t (i := 1476) (by decide +kernel) rfl), (zw_t (i := 1477) (by decide +kernel) rfl)⟩
abbrev MX11_aimed : zO := (RX11, cX11_aimed, 2, some .int)
theorem kX11_aimed : zCalV MX11_aimed yX11_aimed 1 := ⟨⟨(zw_t (i := 1486) (by decide +kernel) rfl), (zw_t (i := 12) (by decide +kernel) rfl), ⟨by decide +kernel, by decide +kernel, by decide +kernel⟩, by decide⟩, (zw_t (i := 1484) (by decide +kernel) rfl), (zw_t (i := 1485) (by decide +kernel) rfl)⟩
abbrev MX11_stepFor : zO := (RX11, cX11_stepFor, 5, some .int)
theorem kX11_stepFor : zCalV MX11_stepFor yX11_stepFor 1 := ⟨⟨(zw_t (i := 1490) (by decide +kernel) rfl), (zw_t (i := 12) (by decide +kernel) rfl), ⟨by decide +kernel, by decide +kernel, by decide +kernel⟩, by decide⟩, (zw_t (i := 1488) (by decide +kernel) rfl), (zw_t (i := 1489) (by decide +kernel) rfl)⟩
abbrev MX11_ones : zO := (RX11, cX11_ones, 3, some .int)
theorem kX11_ones : zCalS MX11_ones yX11_ones 1 := ⟨⟨(zw_t (i := 1497) (by decide +kernel) rfl), (zw_t (i := 12) (by decide +kernel) rfl), ⟨by decide +kernel, by decide +kernel, by decide +kernel⟩, by decide⟩, (zw_t (i := 1496) (by decide +kernel) rfl)⟩
abbrev MX11_who : zO := (RX11, cX11_who, 6, some .int)
theorem kX11_who : zCalV MX11_who yX11_who 0 := ⟨⟨(zw_t (i := 1494) (by decide +kernel) rfl), (zw_t (i := 12) (by decide +kernel) rfl), ⟨by decide +kernel, by decide +kernel, by decide +kernel⟩, by decide⟩, (zw_t (i := 1492) (by decide +kernel) rfl), (zw_t (i := 1493) (by decide +kernel) rfl)⟩
abbrev MX11_plans : zO := (RX11, cX11_plans, 5, none)
theorem kX11_plans : zCalV MX11_plans yX11_plans 3 := ⟨⟨(zw_t (i := 1510) (by decide +kernel) rfl), (zw_t (i := 12) (by decide +kernel) rfl), ⟨by decide +kernel, by decide +kernel, by decide +kernel⟩, by decide⟩, (zw_t (i := 1509) (by decide +kernel) rfl), (zw_p (i := 66) (by decide +kernel) rfl)⟩
abbrev MX11_findBest : zO := (RX11, cX11_findBest, 2, none)
theorem kX11_findBest : zCalV MX11_findBest yX11_findBest 1 := ⟨⟨(zw_t (i := 1506) (by decide +kernel) rfl), (zw_t (i := 12) (by decide +kernel) rfl), ⟨by decide +kernel, by decide +kernel, by decide +kernel⟩, by decide⟩, (zw_t (i := 1505) (by decide +kernel) rfl), (zw_p (i := 65) (by decide +kernel) rfl)⟩
abbrev MX11_best : zO := (RX11, cX11_best, 2, some .int)
theorem kX11_best : zCalV MX11_best yX11_best 1 := ⟨⟨(zw_t (i := 1501) (by decide +kernel) rfl), (zw_t (i := 12) (by decide +kernel) rfl), ⟨by decide +kernel, by decide +kernel, by decide +kernel⟩, by decide⟩, (zw_t (i := 1499) (by decide +kernel) rfl), (zw_t (i := 1500) (by decide +kernel) rfl)⟩
abbrev MX11_ith : zO := (RX11, cX11_ith, 3, some .int)
theorem kX11_ith : zCalV MX11_ith yX11_ith 2 := ⟨⟨(zw_t (i := 1514) (by decide +kernel) rfl), (zw_t (i := 12) (by decide +kernel) rfl), ⟨by decide +kernel, by decide +kernel, by decide +kernel⟩, by decide⟩, (zw_t (i := 1512) (by decide +kernel) rfl), (zw_t (i := 1513) (by decide +kernel) rfl)⟩
abbrev MX11_ways : zO := (RX11, cX11_ways, 2, some .int)
theorem kX11_ways : zCalV MX11_ways yX11_ways 1 := ⟨⟨(zw_t (i := 1519) (by decide +kernel) rfl), (zw_t (i := 12) (by decide +kernel) rfl), ⟨by decide +kernel, by decide +kernel, by decide +kernel⟩, by decide⟩, (zw_t (i := 1517) (by decide +kernel) rfl), (zw_t (i := 1518) (by decide +kernel) rfl)⟩
abbrev MX11_valueOf : zO := (RX11, cX11_valueOf, 8, some .int)
theorem kX11_valueOf : zCalV MX11_valueOf yX11_valueOf 2 := ⟨⟨(zw_t (i := 1527) (by decide +kernel) rfl), (zw_t (i := 12) (by decide +kernel) rfl), ⟨by decide +kernel, by decide +kernel, by decide +kernel⟩, by decide⟩, (zw_t (i := 1526) (by decide +kernel) rfl), (zw_p (i := 67) (by decide +kernel) rfl)⟩
abbrev MX11_game : zO := (RX11, cX11_game, 2, some .int)
theorem kX11_game : zCalV MX11_game yX11_game 1 := ⟨⟨(zw_t (i := 1523) (by decide +kernel) rfl), (zw_t (i := 12) (by decide +kernel) rfl), ⟨by decide +kernel, by decide +kernel, by decide +kernel⟩, by decide⟩, (zw_t (i := 1521) (by decide +kernel) rfl), (zw_t (i := 1522) (by decide +kernel) rfl)⟩
abbrev MX11_play : zO := (RX11, cX11_play, 3, some .int)
theorem kX11_play : zCalV MX11_play yX11_play 1 := ⟨⟨(zw_t (i := 1531) (by decide +kernel) rfl), (zw_t (i := 12) (by decide +kernel) rfl), ⟨by decide +kernel, by decide +kernel, by decide +kernel⟩, by decide⟩, (zw_t (i := 1529) (by decide +kernel) rfl), (zw_t (i := 1530) (by decide +kernel) rfl)⟩
abbrev MX11_report : zO := (RX11, cX11_report, 6, some .int)
theorem kX11_report : zCalV MX11_report yX11_report 4 := ⟨⟨(zw_t (i := 1535) (by decide +kernel) rfl), (zw_t (i := 12) (by decide +kernel) rfl), ⟨by decide +kernel, by decide +kernel, by decide +kernel⟩, by decide⟩, (zw_t (i := 1533) (by decide +kernel) rfl), (zw_t (i := 1534) (by decide +kernel) rfl)⟩
abbrev MX11_forget : zO := (RX11, cX11_forget, 1, some .int)
theorem kX11_forget : zCalV MX11_forget yX11_forget 0 := ⟨⟨(zw_t (i := 1540) (by decide +kernel) rfl), (zw_t (i := 12) (by decide +kernel) rfl), ⟨by decide +kernel, by decide +kernel, by decide +kernel⟩, by decide⟩, (zw_t (i := 1538) (by decide +kernel) rfl), (zw_t (i := 1539) (by decide +kernel) rfl)⟩
abbrev MX11_doesFit : zO := (RX11, cX11_doesFit, 7, some .boolean)
theorem kX11_doesFit : zCalV MX11_doesFit yX11_doesFit 3 := ⟨⟨(zw_t (i := 1552) (by decide +kernel) rfl), (zw_t (i := 12) (by decide +kernel) rfl), ⟨by decide +kernel, by decide +kernel, by decide +kernel⟩, by decide⟩, (zw_t (i := 1551) (by decide +kernel) rfl), (zw_p (i := 69) (by decide +kernel) rfl)⟩
abbrev MX11_fitsBut : zO := (RX11, cX11_fitsBut, 5, some .int)
theorem kX11_fitsBut : zCalV MX11_fitsBut yX11_fitsBut 1 := ⟨⟨(zw_t (i := 1548) (by decide +kernel) rfl), (zw_t (i := 12) (by decide +kernel) rfl), ⟨by decide +kernel, by decide +kernel, by decide +kernel⟩, by decide⟩, (zw_t (i := 1547) (by decide +kernel) rfl), (zw_p (i := 68) (by decide +kernel) rfl)⟩
abbrev MX11_span : zO := (RX11, cX11_span, 3, some .int)
theorem kX11_span : zCalV MX11_span yX11_span 1 := ⟨⟨(zw_t (i := 1544) (by decide +kernel) rfl), (zw_t (i := 12) (by decide +kernel) rfl), ⟨by decide +kernel, by decide +kernel, by decide +kernel⟩, by decide⟩, (zw_t (i := 1542) (by decide +kernel) rfl), (zw_t (i := 1543) (by decide +kernel) rfl)⟩
abbrev MX11_liar : zO := (RX11, cX11_liar, 2, some .int)
theorem kX11_liar : zCalV MX11_liar yX11_liar 0 := ⟨⟨(zw_t (i := 1556) (by decide +kernel) rfl), (zw_t (i := 12) (by decide +kernel) rfl), ⟨by decide +kernel, by decide +kernel, by decide +kernel⟩, by decide⟩, (zw_t (i := 1554) (by decide +kernel) rfl), (zw_t (i := 1555) (by decide +kernel) rfl)⟩
abbrev MX11_seed : zO := (RX11, cX11_seed, 2, some .int)
theorem kX11_seed : zCalV MX11_seed yX11_seed 1 := ⟨⟨(zw_t (i := 1560) (by decide +kernel) rfl), (zw_t (i := 12) (by decide +kernel) rfl), ⟨by decide +kernel, by decide +kernel, by decide +kernel⟩, by decide⟩, (zw_t (i := 1558) (by decide +kernel) rfl), (zw_t (i := 1559) (by decide +kernel) rfl)⟩
abbrev MX11_slips : zO := (RX11, cX11_slips, 2, some .int)
theorem kX11_slips : zCalV MX11_slips yX11_slips 0 := ⟨⟨(zw_t (i := 1568) (by decide +kernel) rfl), (zw_t (i := 12) (by decide +kernel) rfl), ⟨by decide +kernel, by decide +kernel, by decide +kernel⟩, by decide⟩, (zw_t (i := 1567) (by decide +kernel) rfl), (zw_p (i := 70) (by decide +kernel) rfl)⟩
abbrev MX11_lot : zO := (RX11, cX11_lot, 1, some .int)
theorem kX11_lot : zCalV MX11_lot yX11_lot 0 := ⟨⟨(zw_t (i := 1564) (by decide +kernel) rfl), (zw_t (i := 12) (by decide +kernel) rfl), ⟨by decide +kernel, by decide +kernel, by decide +kernel⟩, by decide⟩, (zw_t (i := 1562) (by decide +kernel) rfl), (zw_t (i := 1563) (by decide +kernel) rfl)⟩
abbrev MX11_often : zO := (RX11, cX11_often, 7, some .int)
theorem kX11_often : zCalV MX11_often yX11_often 2 := ⟨⟨(zw_t (i := 1573) (by decide +kernel) rfl), (zw_t (i := 12) (by decide +kernel) rfl), ⟨by decide +kernel, by decide +kernel, by decide +kernel⟩, by decide⟩, (zw_t (i := 1571) (by decide +kernel) rfl), (zw_t (i := 1572) (by decide +kernel) rfl)⟩
abbrev MX11_prove : zO := (RX11, cX11_prove, 4, some .int)
theorem kX11_prove : zCalV MX11_prove yX11_prove 1 := ⟨⟨(zw_t (i := 1578) (by decide +kernel) rfl), (zw_t (i := 12) (by decide +kernel) rfl), ⟨by decide +kernel, by decide +kernel, by decide +kernel⟩, by decide⟩, (zw_t (i := 1576) (by decide +kernel) rfl), (zw_t (i := 1577) (by decide +kernel) rfl)⟩
abbrev MX11_isRow : zO := (RX11, cX11_isRow, 3, some .boolean)
theorem kX11_isRow : zCalV MX11_isRow yX11_isRow 2 := ⟨⟨(zw_t (i := 1586) (by decide +kernel) rfl), (zw_t (i := 12) (by decide +kernel) rfl), ⟨by decide +kernel, by decide +kernel, by decide +kernel⟩, by decide⟩, (zw_t (i := 1585) (by decide +kernel) rfl), (zw_p (i := 71) (by decide +kernel) rfl)⟩
abbrev MX11_row : zO := (RX11, cX11_row, 3, some .int)
theorem kX11_row : zCalV MX11_row yX11_row 2 := ⟨⟨(zw_t (i := 1582) (by decide +kernel) rfl), (zw_t (i := 12) (by decide +kernel) rfl), ⟨by decide +kernel, by decide +kernel, by decide +kernel⟩, by decide⟩, (zw_t (i := 1580) (by decide +kernel) rfl), (zw_t (i := 1581) (by decide +kernel) rfl)⟩
abbrev MX11_alterRow : zO := (RX11, cX11_alterRow, 5, some .int)
theorem kX11_alterRow : zCalV MX11_alterRow yX11_alterRow 3 := ⟨⟨(zw_t (i := 1590) (by decide +kernel) rfl), (zw_t (i := 12) (by decide +kernel) rfl), ⟨by decide +kernel, by decide +kernel, by decide +kernel⟩, by decide⟩, (zw_t (i := 1588) (by decide +kernel) rfl), (zw_t (i := 1589) (by decide +kernel) rfl)⟩
abbrev MX11_isAct : zO := (RX11, cX11_isAct, 3, some .boolean)
theorem kX11_isAct : zCalV MX11_isAct yX11_isAct 1 := ⟨⟨(zw_t (i := 1598) (by decide +kernel) rfl), (zw_t (i := 12) (by decide +kernel) rfl), ⟨by decide +kernel, by decide +kernel, by decide +kernel⟩, by decide⟩, (zw_t (i := 1597) (by decide +kernel) rfl), (zw_p (i := 72) (by decide +kernel) rfl)⟩
abbrev MX11_judge : zO := (RX11, cX11_judge, 5, some .int)
theorem kX11_judge : zCalV MX11_judge yX11_judge 0 := ⟨⟨(zw_t (i := 1594) (by decide +kernel) rfl), (zw_t (i := 12) (by decide +kernel) rfl), ⟨by decide +kernel, by decide +kernel, by decide +kernel⟩, by decide⟩, (zw_t (i := 1592) (by decide +kernel) rfl), (zw_t (i := 1593) (by decide +kernel) rfl)⟩
abbrev MX11_isSheet : zO := (RX11, cX11_isSheet, 1, some .boolean)
theorem kX11_isSheet : zCalS MX11_isSheet yX11_isSheet 1 := ⟨⟨(zw_t (i := 1605) (by decide +kernel) rfl), (zw_t (i := 12) (by decide +kernel) rfl), ⟨by decide +kernel, by decide +kernel, by decide +kernel⟩, by decide⟩, (zw_t (i := 1604) (by decide +kernel) rfl)⟩
abbrev MX11_sheet : zO := (RX11, cX11_sheet, 5, some .int)
theorem kX11_sheet : zCalV MX11_sheet yX11_sheet 3 := ⟨⟨(zw_t (i := 1602) (by decide +kernel) rfl), (zw_t (i := 12) (by decide +kernel) rfl), ⟨by decide +kernel, by decide +kernel, by decide +kernel⟩, by decide⟩, (zw_t (i := 1600) (by decide +kernel) rfl), (zw_t (i := 1601) (by decide +kernel) rfl)⟩
abbrev MX11_narrowed : zO := (RX11, cX11_narrowed, 2, some .long)
theorem kX11_narrowed : zCalS MX11_narrowed yX11_narrowed 2 := ⟨⟨(zw_t (i := 1613) (by decide +kernel) rfl), (zw_t (i := 12) (by decide +kernel) rfl), ⟨by decide +kernel, by decide +kernel, by decide +kernel⟩, by decide⟩, (zw_t (i := 1612) (by decide +kernel) rfl)⟩
abbrev MX11_write : zO := (RX11, cX11_write, 4, some .int)
theorem kX11_write : zCalV MX11_write yX11_write 3 := ⟨⟨(zw_t (i := 1610) (by decide +kernel) rfl), (zw_t (i := 12) (by decide +kernel) rfl), ⟨by decide +kernel, by decide +kernel, by decide +kernel⟩, by decide⟩, (zw_t (i := 1608) (by decide +kernel) rfl), (zw_t (i := 1609) (by decide +kernel) rfl)⟩
abbrev MX11_item : zO := (RX11, cX11_item, 4, some .int)
theorem kX11_item : zCalV MX11_item yX11_item 3 := ⟨⟨(zw_t (i := 1617) (by decide +kernel) rfl), (zw_t (i := 12) (by decide +kernel) rfl), ⟨by decide +kernel, by decide +kernel, by decide +kernel⟩, by decide⟩, (zw_t (i := 1615) (by decide +kernel) rfl), (zw_t (i := 1616) (by decide +kernel) rfl)⟩
abbrev MX11_noActs : zO := (RX11, cX11_noActs, 3, some .int)
theorem kX11_noActs : zCalV MX11_noActs yX11_noActs 2 := ⟨⟨(zw_t (i := 1625) (by decide +kernel) rfl), (zw_t (i := 12) (by decide +kernel) rfl), ⟨by decide +kernel, by decide +kernel, by decide +kernel⟩, by decide⟩, (zw_t (i := 1624) (by decide +kernel) rfl), (zw_p (i := 73) (by decide +kernel) rfl)⟩
abbrev MX11_hasItem : zO := (RX11, cX11_hasItem, 4, some .boolean)
theorem kX11_hasItem : zCalV MX11_hasItem yX11_hasItem 2 := ⟨⟨(zw_t (i := 1630) (by decide +kernel) rfl), (zw_t (i := 12) (by decide +kernel) rfl), ⟨by decide +kernel, by decide +kernel, by decide +kernel⟩, by decide⟩, (zw_t (i := 1629) (by decide +kernel) rfl), (zw_p (i := 74) (by decide +kernel) rfl)⟩
abbrev MX11_goAll : zO := (RX11, cX11_goAll, 8, some .int)
theorem kX11_goAll : zCalV MX11_goAll yX11_goAll 3 := ⟨⟨(zw_t (i := 1621) (by decide +kernel) rfl), (zw_t (i := 12) (by decide +kernel) rfl), ⟨by decide +kernel, by decide +kernel, by decide +kernel⟩, by decide⟩, (zw_t (i := 1619) (by decide +kernel) rfl), (zw_t (i := 1620) (by decide +kernel) rfl)⟩
abbrev MX11_worthOfItems : zO := (RX11, cX11_worthOfItems, 7, some .int)
theorem kX11_worthOfItems : zCalV MX11_worthOfItems yX11_worthOfItems 3 := ⟨⟨(zw_t (i := 1638) (by decide +kernel) rfl), (zw_t (i := 12) (by decide +kernel) rfl), ⟨by decide +kernel, by decide +kernel, by decide +kernel⟩, by decide⟩, (zw_t (i := 1637) (by decide +kernel) rfl), (zw_p (i := 75) (by decide +kernel) rfl)⟩
abbrev MX11_wouldBe : zO := (RX11, cX11_wouldBe, 6, some .int)
theorem kX11_wouldBe : zCalV MX11_wouldBe yX11_wouldBe 3 := ⟨⟨(zw_t (i := 1634) (by decide +kernel) rfl), (zw_t (i := 12) (by decide +kernel) rfl), ⟨by decide +kernel, by decide +kernel, by decide +kernel⟩, by decide⟩, (zw_t (i := 1632) (by decide +kernel) rfl), (zw_t (i := 1633) (by decide +kernel) rfl)⟩
abbrev MX11_shelf : zO := (RX11, cX11_shelf, 5, some .int)
theorem kX11_shelf : zCalV MX11_shelf yX11_shelf 3 := ⟨⟨(zw_t (i := 1642) (by decide +kernel) rfl), (zw_t (i := 12) (by decide +kernel) rfl), ⟨by decide +kernel, by decide +kernel, by decide +kernel⟩, by decide⟩, (zw_t (i := 1640) (by decide +kernel) rfl), (zw_t (i := 1641) (by decide +kernel) rfl)⟩
abbrev MX11_heldBy : zO := (RX11, cX11_heldBy, 2, some .int)
theorem kX11_heldBy : zCalV MX11_heldBy yX11_heldBy 1 := ⟨⟨(zw_t (i := 1652) (by decide +kernel) rfl), (zw_t (i := 12) (by decide +kernel) rfl), ⟨by decide +kernel, by decide +kernel, by decide +kernel⟩, by decide⟩, (zw_t (i := 1651) (by decide +kernel) rfl), (zw_p (i := 76) (by decide +kernel) rfl)⟩
abbrev MX11_taken : zO := (RX11, cX11_taken, 5, some .int)
theorem kX11_taken : zCalV MX11_taken yX11_taken 2 := ⟨⟨(zw_t (i := 1646) (by decide +kernel) rfl), (zw_t (i := 12) (by decide +kernel) rfl), ⟨by decide +kernel, by decide +kernel, by decide +kernel⟩, by decide⟩, (zw_t (i := 1644) (by decide +kernel) rfl), (zw_t (i := 1645) (by decide +kernel) rfl)⟩
abbrev MX11_begins : zO := (RX11, cX11_begins, 2, none)
theorem kX11_begins : zCalV MX11_begins yX11_begins 1 := ⟨⟨(zw_t (i := 1664) (by decide +kernel) rfl), (zw_t (i := 12) (by decide +kernel) rfl), ⟨by decide +kernel, by decide +kernel, by decide +kernel⟩, by decide⟩, (zw_t (i := 1663) (by decide +kernel) rfl), (zw_p (i := 78) (by decide +kernel) rfl)⟩
abbrev MX11_above : zO := (RX11, cX11_above, 1, some .int)
theorem kX11_above : zCalS MX11_above yX11_above 1 := ⟨⟨(zw_t (i := 1667) (by decide +kernel) rfl), (zw_t (i := 12) (by decide +kernel) rfl), ⟨by decide +kernel, by decide +kernel, by decide +kernel⟩, by decide⟩, (zw_t (i := 1666) (by decide +kernel) rfl)⟩
abbrev MX11_aims : zO := (RX11, cX11_aims, 3, some .int)
theorem kX11_aims : zCalV MX11_aims yX11_aims 2 := ⟨⟨(zw_t (i := 1660) (by decide +kernel) rfl), (zw_t (i := 12) (by decide +kernel) rfl), ⟨by decide +kernel, by decide +kernel, by decide +kernel⟩, by decide⟩, (zw_t (i := 1659) (by decide +kernel) rfl), (zw_p (i := 77) (by decide +kernel) rfl)⟩
abbrev MX11_swings : zO := (RX11, cX11_swings, 3, some .int)
theorem kX11_swings : zCalV MX11_swings yX11_swings 2 := ⟨⟨(zw_t (i := 1671) (by decide +kernel) rfl), (zw_t (i := 12) (by decide +kernel) rfl), ⟨by decide +kernel, by decide +kernel, by decide +kernel⟩, by decide⟩, (zw_t (i := 1670) (by decide +kernel) rfl), (zw_p (i := 79) (by decide +kernel) rfl)⟩
abbrev MX11_dims : zO := (RX11, cX11_dims, 4, some .int)
theorem kX11_dims : zCalV MX11_dims yX11_dims 2 := ⟨⟨(zw_t (i := 1675) (by decide +kernel) rfl), (zw_t (i := 12) (by decide +kernel) rfl), ⟨by decide +kernel, by decide +kernel, by decide +kernel⟩, by decide⟩, (zw_t (i := 1674) (by decide +kernel) rfl), (zw_p (i := 80) (by decide +kernel) rfl)⟩
abbrev MX11_follows : zO := (RX11, cX11_follows, 4, some .int)
theorem kX11_follows : zCalV MX11_follows yX11_follows 2 := ⟨⟨(zw_t (i := 1679) (by decide +kernel) rfl), (zw_t (i := 12) (by decide +kernel) rfl), ⟨by decide +kernel, by decide +kernel, by decide +kernel⟩, by decide⟩, (zw_t (i := 1678) (by decide +kernel) rfl), (zw_p (i := 81) (by decide +kernel) rfl)⟩
abbrev MX11_act : zO := (RX11, cX11_act, 5, some .int)
theorem kX11_act : zCalV MX11_act yX11_act 3 := ⟨⟨(zw_t (i := 1656) (by decide +kernel) rfl), (zw_t (i := 12) (by decide +kernel) rfl), ⟨by decide +kernel, by decide +kernel, by decide +kernel⟩, by decide⟩, (zw_t (i := 1654) (by decide +kernel) rfl), (zw_t (i := 1655) (by decide +kernel) rfl)⟩
abbrev MX11_trace : zO := (RX11, cX11_trace, 2, some .int)
theorem kX11_trace : zCalV MX11_trace yX11_trace 1 := ⟨⟨(zw_t (i := 1683) (by decide +kernel) rfl), (zw_t (i := 12) (by decide +kernel) rfl), ⟨by decide +kernel, by decide +kernel, by decide +kernel⟩, by decide⟩, (zw_t (i := 1681) (by decide +kernel) rfl), (zw_t (i := 1682) (by decide +kernel) rfl)⟩
abbrev MX11_many : zO := (RX11, cX11_many, 2, some .int)
theorem kX11_many : zCalV MX11_many yX11_many 1 := ⟨⟨(zw_t (i := 1687) (by decide +kernel) rfl), (zw_t (i := 12) (by decide +kernel) rfl), ⟨by decide +kernel, by decide +kernel, by decide +kernel⟩, by decide⟩, (zw_t (i := 1685) (by decide +kernel) rfl), (zw_t (i := 1686) (by decide +kernel) rfl)⟩
abbrev MX11_keep : zO := (RX11, cX11_keep, 1, some .int)
theorem kX11_keep : zCalV MX11_keep yX11_keep 0 := ⟨⟨(zw_t (i := 1691) (by decide +kernel) rfl), (zw_t (i := 12) (by decide +kernel) rfl), ⟨by decide +kernel, by decide +kernel, by decide +kernel⟩, by decide⟩, (zw_t (i := 1689) (by decide +kernel) rfl), (zw_t (i := 1690) (by decide +kernel) rfl)⟩
abbrev MX11_again : zO := (RX11, cX11_again, 1, some .int)
theorem kX11_again : zCalV MX11_again yX11_again 0 := ⟨⟨(zw_t (i := 1695) (by decide +kernel) rfl), (zw_t (i := 12) (by decide +kernel) rfl), ⟨by decide +kernel, by decide +kernel, by decide +kernel⟩, by decide⟩, (zw_t (i := 1693) (by decide +kernel) rfl), (zw_t (i := 1694) (by decide +kernel) rfl)⟩
abbrev MJ6_compare_7cf53 : zO := (RJ6, cJ6_compare_7cf53, 2, some .int)
theorem kJ6_compare_7cf53 : zCalS MJ6_compare_7cf53 yJ6_compare_7cf53 2 := ⟨⟨(zw_t (i := 464) (by decide +kernel) rfl), (zw_t (i := 14) (by decide +kernel) rfl), ⟨by decide +kernel, by decide +kernel, by decide +kernel⟩, by decide⟩, (zw_t (i := 463) (by decide +kernel) rfl)⟩
abbrev MJ6_bitCount_0f7a4 : zO := (RJ6, cJ6_bitCount_0f7a4, 1, some .int)
theorem kJ6_bitCount_0f7a4 : zCalS MJ6_bitCount_0f7a4 yJ6_bitCount_0f7a4 1 := ⟨⟨(zw_t (i := 764) (by decide +kernel) rfl), (zw_t (i := 14) (by decide +kernel) rfl), ⟨by decide +kernel, by decide +kernel, by decide +kernel⟩, by decide⟩, (zw_t (i := 763) (by decide +kernel) rfl)⟩
abbrev MJ9_abs_0f7a4 : zO := (RJ9, cJ9_abs_0f7a4, 1, some .int)
theorem kJ9_abs_0f7a4 : zCalS MJ9_abs_0f7a4 yJ9_abs_0f7a4 1 := ⟨⟨(zw_t (i := 679) (by decide +kernel) rfl), (zw_t (i := 13) (by decide +kernel) rfl), ⟨by decide +kernel, by decide +kernel, by decide +kernel⟩, by decide⟩, (zw_t (i := 678) (by decide +kernel) rfl)⟩
abbrev MJ9_max_7cf53 : zO := (RJ9, cJ9_max_7cf53, 2, some .int)
theorem kJ9_max_7cf53 : zCalS MJ9_max_7cf53 yJ9_max_7cf53 2 := ⟨⟨(zw_t (i := 461) (by decide +kernel) rfl), (zw_t (i := 13) (by decide +kernel) rfl), ⟨by decide +kernel, by decide +kernel, by decide +kernel⟩, by decide⟩, (zw_t (i := 460) (by decide +kernel) rfl)⟩
abbrev MJ9_min_7cf53 : zO := (RJ9, cJ9_min_7cf53, 2, some .int)
theorem kJ9_min_7cf53 : zCalS MJ9_min_7cf53 yJ9_min_7cf53 2 := ⟨⟨(zw_t (i := 458) (by decide +kernel) rfl), (zw_t (i := 13) (by decide +kernel) rfl), ⟨by decide +kernel, by decide +kernel, by decide +kernel⟩, by decide⟩, (zw_t (i := 457) (by decide +kernel) rfl)⟩
abbrev MJ0_length_8abf5 : zO := (RJ0, cJ0_length_8abf5, 1, some .int)
theorem kJ0_length_8abf5 : zCalV MJ0_length_8abf5 yJ0_length_8abf5 0 := ⟨⟨(zw_t (i := 565) (by decide +kernel) rfl), (zw_t (i := 15) (by decide +kernel) rfl), ⟨by decide +kernel, by decide +kernel, by decide +kernel⟩, by decide⟩, (zw_t (i := 563) (by decide +kernel) rfl), (zw_t (i := 564) (by decide +kernel) rfl)⟩
abbrev MJ0_charAt_5068e : zO := (RJ0, cJ0_charAt_5068e, 2, some .char)
theorem kJ0_charAt_5068e : zCalV MJ0_charAt_5068e yJ0_charAt_5068e 1 := ⟨⟨(zw_t (i := 575) (by decide +kernel) rfl), (zw_t (i := 15) (by decide +kernel) rfl), ⟨by decide +kernel, by decide +kernel, by decide +kernel⟩, by decide⟩, (zw_t (i := 573) (by decide +kernel) rfl), (zw_t (i := 574) (by decide +kernel) rfl)⟩
abbrev MJ0_coder_7d493 : zO := (RJ0, cJ0_coder_7d493, 1, some .byte)
theorem kJ0_coder_7d493 : zCalV MJ0_coder_7d493 yJ0_coder_7d493 0 := ⟨⟨(zw_t (i := 569) (by decide +kernel) rfl), (zw_t (i := 15) (by decide +kernel) rfl), ⟨by decide +kernel, by decide +kernel, by decide +kernel⟩, by decide⟩, (zw_t (i := 567) (by decide +kernel) rfl), (zw_t (i := 568) (by decide +kernel) rfl)⟩
abbrev MJ0_isLatin1_aae02 : zO := (RJ0, cJ0_isLatin1_aae02, 1, some .boolean)
theorem kJ0_isLatin1_aae02 : zCalV MJ0_isLatin1_aae02 yJ0_isLatin1_aae02 0 := ⟨⟨(zw_t (i := 579) (by decide +kernel) rfl), (zw_t (i := 15) (by decide +kernel) rfl), ⟨by decide +kernel, by decide +kernel, by decide +kernel⟩, by decide⟩, (zw_t (i := 577) (by decide +kernel) rfl), (zw_t (i := 578) (by decide +kernel) rfl)⟩
abbrev MJ0_checkIndex_df160 : zO := (RJ0, cJ0_checkIndex_df160, 2, none)
theorem kJ0_checkIndex_df160 : zCalS MJ0_checkIndex_df160 yJ0_checkIndex_df160 2 := ⟨⟨(zw_t (i := 585) (by decide +kernel) rfl), (zw_t (i := 15) (by decide +kernel) rfl), ⟨by decide +kernel, by decide +kernel, by decide +kernel⟩, by decide⟩, (zw_t (i := 584) (by decide +kernel) rfl)⟩
abbrev MJ1_charAt_3b067 : zO := (RJ1, cJ1_charAt_3b067, 2, some .char)
theorem kJ1_charAt_3b067 : zCalS MJ1_charAt_3b067 yJ1_charAt_3b067 2 := ⟨⟨(zw_t (i := 582) (by decide +kernel) rfl), (zw_t (i := 16) (by decide +kernel) rfl), ⟨by decide +kernel, by decide +kernel, by decide +kernel⟩, by decide⟩, (zw_t (i := 581) (by decide +kernel) rfl)⟩
abbrev MJ2_getChar_3b067 : zO := (RJ2, cJ2_getChar_3b067, 2, some .char)
theorem kJ2_getChar_3b067 : zCalS MJ2_getChar_3b067 yJ2_getChar_3b067 2 := ⟨⟨(zw_t (i := 603) (by decide +kernel) rfl), (zw_t (i := 18) (by decide +kernel) rfl), ⟨by decide +kernel, by decide +kernel, by decide +kernel⟩, by decide⟩, (zw_t (i := 602) (by decide +kernel) rfl)⟩
abbrev MJ2_length_9d52b : zO := (RJ2, cJ2_length_9d52b, 1, some .int)
theorem kJ2_length_9d52b : zCalS MJ2_length_9d52b yJ2_length_9d52b 1 := ⟨⟨(zw_t (i := 599) (by decide +kernel) rfl), (zw_t (i := 18) (by decide +kernel) rfl), ⟨by decide +kernel, by decide +kernel, by decide +kernel⟩, by decide⟩, (zw_t (i := 598) (by decide +kernel) rfl)⟩
abbrev MJ2_charAt_3b067 : zO := (RJ2, cJ2_charAt_3b067, 2, some .char)
theorem kJ2_charAt_3b067 : zCalS MJ2_charAt_3b067 yJ2_charAt_3b067 2 := ⟨⟨(zw_t (i := 593) (by decide +kernel) rfl), (zw_t (i := 18) (by decide +kernel) rfl), ⟨by decide +kernel, by decide +kernel, by decide +kernel⟩, by decide⟩, (zw_t (i := 592) (by decide +kernel) rfl)⟩
abbrev MJ2_checkIndex_2214a : zO := (RJ2, cJ2_checkIndex_2214a, 2, none)
theorem kJ2_checkIndex_2214a : zCalS MJ2_checkIndex_2214a yJ2_checkIndex_2214a 2 := ⟨⟨(zw_t (i := 596) (by decide +kernel) rfl), (zw_t (i := 18) (by decide +kernel) rfl), ⟨by decide +kernel, by decide +kernel, by decide +kernel⟩, by decide⟩, (zw_t (i := 595) (by decide +kernel) rfl)⟩
abbrev MJ3_checkIndex_8e157 : zO := (RJ3, cJ3_checkIndex_8e157, 3, some .int)
theorem kJ3_checkIndex_8e157 : zCalS MJ3_checkIndex_8e157 yJ3_checkIndex_8e157 3 := ⟨⟨(zw_t (i := 590) (by decide +kernel) rfl), (zw_t (i := 17) (by decide +kernel) rfl), ⟨by decide +kernel, by decide +kernel, by decide +kernel⟩, by decide⟩, (zw_t (i := 589) (by decide +kernel) rfl)⟩
theorem mlL_9 : Cond.methodLink RL 9 yX10_init ∈ zw := (zw_t (i := 22) (by decide +kernel) rfl)
theorem flX5_9 : zFld RX5 9 5 0 := ⟨RX5, TX5, 7, rfl, by decide, uX5, (zw_t (i := 34) (by decide +kernel) rfl)⟩
theorem flX8_77 : zFld RX8 77 5 0 := ⟨RX5, TX5, 7, rfl, by decide, uX5, (zw_t (i := 35) (by decide +kernel) rfl)⟩
theorem flX5_15 : zFld RX5 15 5 1 := ⟨RX5, TX5, 7, rfl, by decide, uX5, (zw_t (i := 36) (by decide +kernel) rfl)⟩
theorem flX8_86 : zFld RX8 86 5 1 := ⟨RX5, TX5, 7, rfl, by decide, uX5, (zw_t (i := 37) (by decide +kernel) rfl)⟩
theorem flX5_18 : zFld RX5 18 5 2 := ⟨RX5, TX5, 7, rfl, by decide, uX5, (zw_t (i := 38) (by decide +kernel) rfl)⟩
theorem flX5_21 : zFld RX5 21 5 3 := ⟨RX5, TX5, 7, rfl, by decide, uX5, (zw_t (i := 39) (by decide +kernel) rfl)⟩
theorem flX5_24 : zFld RX5 24 5 4 := ⟨RX5, TX5, 7, rfl, by decide, uX5, (zw_t (i := 40) (by decide +kernel) rfl)⟩
theorem flX5_33 : zFld RX5 33 5 5 := ⟨RX5, TX5, 7, rfl, by decide, uX5, (zw_t (i := 41) (by decide +kernel) rfl)⟩
theorem fpX5_33 : zFldP RX5 33 5 5 .int := ⟨RX5, TX5, 7, tyX5, rfl, by decide, uX5, (zw_t (i := 41) (by decide +kernel) rfl), tyX5_ok, nmX5, rfl, by decide +kernel⟩
theorem flX10_170 : zFld RX10 170 5 5 := ⟨RX5, TX5, 7, rfl, by decide, uX5, (zw_t (i := 42) (by decide +kernel) rfl)⟩
theorem fpX10_170 : zFldP RX10 170 5 5 .int := ⟨RX5, TX5, 7, tyX5, rfl, by decide, uX5, (zw_t (i := 42) (by decide +kernel) rfl), tyX5_ok, nmX5, rfl, by decide +kernel⟩
theorem flX8_74 : zFld RX8 74 5 5 := ⟨RX5, TX5, 7, rfl, by decide, uX5, (zw_t (i := 43) (by decide +kernel) rfl)⟩
theorem fpX8_74 : zFldP RX8 74 5 5 .int := ⟨RX5, TX5, 7, tyX5, rfl, by decide, uX5, (zw_t (i := 43) (by decide +kernel) rfl), tyX5_ok, nmX5, rfl, by decide +kernel⟩
theorem flX5_37 : zFld RX5 37 5 6 := ⟨RX5, TX5, 7, rfl, by decide, uX5, (zw_t (i := 44) (by decide +kernel) rfl)⟩
theorem fpX5_37 : zFldP RX5 37 5 6 .int := ⟨RX5, TX5, 7, tyX5, rfl, by decide, uX5, (zw_t (i := 44) (by decide +kernel) rfl), tyX5_ok, nmX5, rfl, by decide +kernel⟩
theorem flX4_11 : zFld RX4 11 4 0 := ⟨RX4, TX4, 8, rfl, by decide, uX4, (zw_t (i := 69) (by decide +kernel) rfl)⟩
theorem flX4_15 : zFld RX4 15 4 1 := ⟨RX4, TX4, 8, rfl, by decide, uX4, (zw_t (i := 70) (by decide +kernel) rfl)⟩
theorem flX4_18 : zFld RX4 18 4 2 := ⟨RX4, TX4, 8, rfl, by decide, uX4, (zw_t (i := 71) (by decide +kernel) rfl)⟩
theorem flX4_21 : zFld RX4 21 4 3 := ⟨RX4, TX4, 8, rfl, by decide, uX4, (zw_t (i := 72) (by decide +kernel) rfl)⟩
theorem flX4_27 : zFld RX4 27 4 4 := ⟨RX4, TX4, 8, rfl, by decide, uX4, (zw_t (i := 73) (by decide +kernel) rfl)⟩
theorem flX4_31 : zFld RX4 31 4 5 := ⟨RX4, TX4, 8, rfl, by decide, uX4, (zw_t (i := 74) (by decide +kernel) rfl)⟩
theorem fpX4_31 : zFldP RX4 31 4 5 .int := ⟨RX4, TX4, 8, tyX4, rfl, by decide, uX4, (zw_t (i := 74) (by decide +kernel) rfl), tyX4_ok, nmX4, rfl, by decide +kernel⟩
theorem flX10_159 : zFld RX10 159 4 5 := ⟨RX4, TX4, 8, rfl, by decide, uX4, (zw_t (i := 75) (by decide +kernel) rfl)⟩
theorem fpX10_159 : zFldP RX10 159 4 5 .int := ⟨RX4, TX4, 8, tyX4, rfl, by decide, uX4, (zw_t (i := 75) (by decide +kernel) rfl), tyX4_ok, nmX4, rfl, by decide +kernel⟩
theorem flX4_77 : zFld RX4 77 4 6 := ⟨RX4, TX4, 8, rfl, by decide, uX4, (zw_t (i := 76) (by decide +kernel) rfl)⟩
theorem fpX4_77 : zFldP RX4 77 4 6 .int := ⟨RX4, TX4, 8, tyX4, rfl, by decide, uX4, (zw_t (i := 76) (by decide +kernel) rfl), tyX4_ok, nmX4, rfl, by decide +kernel⟩
theorem flX4_38 : zFld RX4 38 4 7 := ⟨RX4, TX4, 8, rfl, by decide, uX4, (zw_t (i := 77) (by decide +kernel) rfl)⟩
theorem fpX4_38 : zFldP RX4 38 4 7 .int := ⟨RX4, TX4, 8, tyX4, rfl, by decide, uX4, (zw_t (i := 77) (by decide +kernel) rfl), tyX4_ok, nmX4, rfl, by decide +kernel⟩
theorem mlX10_25 : Cond.methodLink RX10 25 yX8_init ∈ zw := (zw_t (i := 97) (by decide +kernel) rfl)
theorem flX8_36 : zFld RX8 36 8 0 := ⟨RX8, TX8, 12, rfl, by decide, uX8, (zw_t (i := 101) (by decide +kernel) rfl)⟩
theorem flX8_9 : zFld RX8 9 8 1 := ⟨RX8, TX8, 12, rfl, by decide, uX8, (zw_t (i := 102) (by decide +kernel) rfl)⟩
theorem flX7_51 : zFld RX7 51 8 1 := ⟨RX8, TX8, 12, rfl, by decide, uX8, (zw_t (i := 103) (by decide +kernel) rfl)⟩
theorem flX10_321 : zFld RX10 321 8 1 := ⟨RX8, TX8, 12, rfl, by decide, uX8, (zw_t (i := 104) (by decide +kernel) rfl)⟩
theorem flX8_15 : zFld RX8 15 8 2 := ⟨RX8, TX8, 12, rfl, by decide, uX8, (zw_t (i := 105) (by decide +kernel) rfl)⟩
theorem flX0_92 : zFld RX0 92 8 2 := ⟨RX8, TX8, 12, rfl, by decide, uX8, (zw_t (i := 106) (by decide +kernel) rfl)⟩
theorem flX2_60 : zFld RX2 60 8 2 := ⟨RX8, TX8, 12, rfl, by decide, uX8, (zw_t (i := 107) (by decide +kernel) rfl)⟩
theorem flX10_179 : zFld RX10 179 8 2 := ⟨RX8, TX8, 12, rfl, by decide, uX8, (zw_t (i := 108) (by decide +kernel) rfl)⟩
theorem flX8_18 : zFld RX8 18 8 3 := ⟨RX8, TX8, 12, rfl, by decide, uX8, (zw_t (i := 109) (by decide +kernel) rfl)⟩
theorem flX10_324 : zFld RX10 324 8 3 := ⟨RX8, TX8, 12, rfl, by decide, uX8, (zw_t (i := 110) (by decide +kernel) rfl)⟩
theorem flX8_21 : zFld RX8 21 8 4 := ⟨RX8, TX8, 12, rfl, by decide, uX8, (zw_t (i := 111) (by decide +kernel) rfl)⟩
theorem flX10_188 : zFld RX10 188 8 4 := ⟨RX8, TX8, 12, rfl, by decide, uX8, (zw_t (i := 112) (by decide +kernel) rfl)⟩
theorem flX8_24 : zFld RX8 24 8 5 := ⟨RX8, TX8, 12, rfl, by decide, uX8, (zw_t (i := 113) (by decide +kernel) rfl)⟩
theorem flX10_145 : zFld RX10 145 8 5 := ⟨RX8, TX8, 12, rfl, by decide, uX8, (zw_t (i := 114) (by decide +kernel) rfl)⟩
theorem flX8_29 : zFld RX8 29 8 6 := ⟨RX8, TX8, 12, rfl, by decide, uX8, (zw_t (i := 115) (by decide +kernel) rfl)⟩
theorem flX8_46 : zFld RX8 46 8 7 := ⟨RX8, TX8, 12, rfl, by decide, uX8, (zw_t (i := 116) (by decide +kernel) rfl)⟩
theorem fpX8_46 : zFldP RX8 46 8 7 .int := ⟨RX8, TX8, 12, tyX8, rfl, by decide, uX8, (zw_t (i := 116) (by decide +kernel) rfl), tyX8_ok, nmX8, rfl, by decide +kernel⟩
theorem flX0_66 : zFld RX0 66 8 7 := ⟨RX8, TX8, 12, rfl, by decide, uX8, (zw_t (i := 117) (by decide +kernel) rfl)⟩
theorem fpX0_66 : zFldP RX0 66 8 7 .int := ⟨RX8, TX8, 12, tyX8, rfl, by decide, uX8, (zw_t (i := 117) (by decide +kernel) rfl), tyX8_ok, nmX8, rfl, by decide +kernel⟩
theorem flX2_71 : zFld RX2 71 8 7 := ⟨RX8, TX8, 12, rfl, by decide, uX8, (zw_t (i := 118) (by decide +kernel) rfl)⟩
theorem fpX2_71 : zFldP RX2 71 8 7 .int := ⟨RX8, TX8, 12, tyX8, rfl, by decide, uX8, (zw_t (i := 118) (by decide +kernel) rfl), tyX8_ok, nmX8, rfl, by decide +kernel⟩
theorem flX10_337 : zFld RX10 337 8 7 := ⟨RX8, TX8, 12, rfl, by decide, uX8, (zw_t (i := 119) (by decide +kernel) rfl)⟩
theorem fpX10_337 : zFldP RX10 337 8 7 .int := ⟨RX8, TX8, 12, tyX8, rfl, by decide, uX8, (zw_t (i := 119) (by decide +kernel) rfl), tyX8_ok, nmX8, rfl, by decide +kernel⟩
theorem flX0_36 : zFld RX0 36 8 8 := ⟨RX8, TX8, 12, rfl, by decide, uX8, (zw_t (i := 120) (by decide +kernel) rfl)⟩
theorem fpX0_36 : zFldP RX0 36 8 8 .int := ⟨RX8, TX8, 12, tyX8, rfl, by decide, uX8, (zw_t (i := 120) (by decide +kernel) rfl), tyX8_ok, nmX8, rfl, by decide +kernel⟩
theorem flX8_49 : zFld RX8 49 8 8 := ⟨RX8, TX8, 12, rfl, by decide, uX8, (zw_t (i := 121) (by decide +kernel) rfl)⟩
theorem fpX8_49 : zFldP RX8 49 8 8 .int := ⟨RX8, TX8, 12, tyX8, rfl, by decide, uX8, (zw_t (i := 121) (by decide +kernel) rfl), tyX8_ok, nmX8, rfl, by decide +kernel⟩
theorem flX2_44 : zFld RX2 44 8 8 := ⟨RX8, TX8, 12, rfl, by decide, uX8, (zw_t (i := 122) (by decide +kernel) rfl)⟩
theorem fpX2_44 : zFldP RX2 44 8 8 .int := ⟨RX8, TX8, 12, tyX8, rfl, by decide, uX8, (zw_t (i := 122) (by decide +kernel) rfl), tyX8_ok, nmX8, rfl, by decide +kernel⟩
theorem flX10_156 : zFld RX10 156 8 8 := ⟨RX8, TX8, 12, rfl, by decide, uX8, (zw_t (i := 123) (by decide +kernel) rfl)⟩
theorem fpX10_156 : zFldP RX10 156 8 8 .int := ⟨RX8, TX8, 12, tyX8, rfl, by decide, uX8, (zw_t (i := 123) (by decide +kernel) rfl), tyX8_ok, nmX8, rfl, by decide +kernel⟩
theorem flX0_40 : zFld RX0 40 8 9 := ⟨RX8, TX8, 12, rfl, by decide, uX8, (zw_t (i := 124) (by decide +kernel) rfl)⟩
theorem fpX0_40 : zFldP RX0 40 8 9 .int := ⟨RX8, TX8, 12, tyX8, rfl, by decide, uX8, (zw_t (i := 124) (by decide +kernel) rfl), tyX8_ok, nmX8, rfl, by decide +kernel⟩
theorem flX8_52 : zFld RX8 52 8 9 := ⟨RX8, TX8, 12, rfl, by decide, uX8, (zw_t (i := 125) (by decide +kernel) rfl)⟩
theorem fpX8_52 : zFldP RX8 52 8 9 .int := ⟨RX8, TX8, 12, tyX8, rfl, by decide, uX8, (zw_t (i := 125) (by decide +kernel) rfl), tyX8_ok, nmX8, rfl, by decide +kernel⟩
theorem flX2_40 : zFld RX2 40 8 9 := ⟨RX8, TX8, 12, rfl, by decide, uX8, (zw_t (i := 126) (by decide +kernel) rfl)⟩
theorem fpX2_40 : zFldP RX2 40 8 9 .int := ⟨RX8, TX8, 12, tyX8, rfl, by decide, uX8, (zw_t (i := 126) (by decide +kernel) rfl), tyX8_ok, nmX8, rfl, by decide +kernel⟩
theorem flX10_149 : zFld RX10 149 8 9 := ⟨RX8, TX8, 12, rfl, by decide, uX8, (zw_t (i := 127) (by decide +kernel) rfl)⟩
theorem fpX10_149 : zFldP RX10 149 8 9 .int := ⟨RX8, TX8, 12, tyX8, rfl, by decide, uX8, (zw_t (i := 127) (by decide +kernel) rfl), tyX8_ok, nmX8, rfl, by decide +kernel⟩
theorem flX8_55 : zFld RX8 55 8 10 := ⟨RX8, TX8, 12, rfl, by decide, uX8, (zw_t (i := 128) (by decide +kernel) rfl)⟩
theorem fpX8_55 : zFldP RX8 55 8 10 .int := ⟨RX8, TX8, 12, tyX8, rfl, by decide, uX8, (zw_t (i := 128) (by decide +kernel) rfl), tyX8_ok, nmX8, rfl, by decide +kernel⟩
theorem flX10_153 : zFld RX10 153 8 10 := ⟨RX8, TX8, 12, rfl, by decide, uX8, (zw_t (i := 129) (by decide +kernel) rfl)⟩
theorem fpX10_153 : zFldP RX10 153 8 10 .int := ⟨RX8, TX8, 12, tyX8, rfl, by decide, uX8, (zw_t (i := 129) (by decide +kernel) rfl), tyX8_ok, nmX8, rfl, by decide +kernel⟩
theorem flX8_32 : zFld RX8 32 8 11 := ⟨RX8, TX8, 12, rfl, by decide, uX8, (zw_t (i := 130) (by decide +kernel) rfl)⟩
theorem fpX8_32 : zFldP RX8 32 8 11 .int := ⟨RX8, TX8, 12, tyX8, rfl, by decide, uX8, (zw_t (i := 130) (by decide +kernel) rfl), tyX8_ok, nmX8, rfl, by decide +kernel⟩
theorem flX2_81 : zFld RX2 81 8 11 := ⟨RX8, TX8, 12, rfl, by decide, uX8, (zw_t (i := 131) (by decide +kernel) rfl)⟩
theorem fpX2_81 : zFldP RX2 81 8 11 .int := ⟨RX8, TX8, 12, tyX8, rfl, by decide, uX8, (zw_t (i := 131) (by decide +kernel) rfl), tyX8_ok, nmX8, rfl, by decide +kernel⟩
theorem flX10_244 : zFld RX10 244 8 11 := ⟨RX8, TX8, 12, rfl, by decide, uX8, (zw_t (i := 132) (by decide +kernel) rfl)⟩
theorem fpX10_244 : zFldP RX10 244 8 11 .int := ⟨RX8, TX8, 12, tyX8, rfl, by decide, uX8, (zw_t (i := 132) (by decide +kernel) rfl), tyX8_ok, nmX8, rfl, by decide +kernel⟩
theorem flX1_9 : zFld RX1 9 1 0 := ⟨RX1, TX1, 7, rfl, by decide, uX1, (zw_t (i := 164) (by decide +kernel) rfl)⟩
theorem flX1_15 : zFld RX1 15 1 1 := ⟨RX1, TX1, 7, rfl, by decide, uX1, (zw_t (i := 165) (by decide +kernel) rfl)⟩
theorem flX1_18 : zFld RX1 18 1 2 := ⟨RX1, TX1, 7, rfl, by decide, uX1, (zw_t (i := 166) (by decide +kernel) rfl)⟩
theorem flX1_21 : zFld RX1 21 1 3 := ⟨RX1, TX1, 7, rfl, by decide, uX1, (zw_t (i := 167) (by decide +kernel) rfl)⟩
theorem flX1_30 : zFld RX1 30 1 4 := ⟨RX1, TX1, 7, rfl, by decide, uX1, (zw_t (i := 168) (by decide +kernel) rfl)⟩
theorem fpX1_30 : zFldP RX1 30 1 4 .int := ⟨RX1, TX1, 7, tyX1, rfl, by decide, uX1, (zw_t (i := 168) (by decide +kernel) rfl), tyX1_ok, nmX1, rfl, by decide +kernel⟩
theorem flX10_231 : zFld RX10 231 1 4 := ⟨RX1, TX1, 7, rfl, by decide, uX1, (zw_t (i := 169) (by decide +kernel) rfl)⟩
theorem fpX10_231 : zFldP RX10 231 1 4 .int := ⟨RX1, TX1, 7, tyX1, rfl, by decide, uX1, (zw_t (i := 169) (by decide +kernel) rfl), tyX1_ok, nmX1, rfl, by decide +kernel⟩
theorem flX1_38 : zFld RX1 38 1 5 := ⟨RX1, TX1, 7, rfl, by decide, uX1, (zw_t (i := 170) (by decide +kernel) rfl)⟩
theorem fpX1_38 : zFldP RX1 38 1 5 .int := ⟨RX1, TX1, 7, tyX1, rfl, by decide, uX1, (zw_t (i := 170) (by decide +kernel) rfl), tyX1_ok, nmX1, rfl, by decide +kernel⟩
theorem flX10_235 : zFld RX10 235 1 5 := ⟨RX1, TX1, 7, rfl, by decide, uX1, (zw_t (i := 171) (by decide +kernel) rfl)⟩
theorem fpX10_235 : zFldP RX10 235 1 5 .int := ⟨RX1, TX1, 7, tyX1, rfl, by decide, uX1, (zw_t (i := 171) (by decide +kernel) rfl), tyX1_ok, nmX1, rfl, by decide +kernel⟩
theorem flX1_41 : zFld RX1 41 1 6 := ⟨RX1, TX1, 7, rfl, by decide, uX1, (zw_t (i := 172) (by decide +kernel) rfl)⟩
theorem fpX1_41 : zFldP RX1 41 1 6 .int := ⟨RX1, TX1, 7, tyX1, rfl, by decide, uX1, (zw_t (i := 172) (by decide +kernel) rfl), tyX1_ok, nmX1, rfl, by decide +kernel⟩
theorem flX10_238 : zFld RX10 238 1 6 := ⟨RX1, TX1, 7, rfl, by decide, uX1, (zw_t (i := 173) (by decide +kernel) rfl)⟩
theorem fpX10_238 : zFldP RX10 238 1 6 .int := ⟨RX1, TX1, 7, tyX1, rfl, by decide, uX1, (zw_t (i := 173) (by decide +kernel) rfl), tyX1_ok, nmX1, rfl, by decide +kernel⟩
theorem mlX10_44 : Cond.methodLink RX10 44 yX2_init ∈ zw := (zw_t (i := 191) (by decide +kernel) rfl)
theorem flX2_15 : zFld RX2 15 2 0 := ⟨RX2, TX2, 3, rfl, by decide, uX2, (zw_t (i := 195) (by decide +kernel) rfl)⟩
theorem flX2_19 : zFld RX2 19 2 1 := ⟨RX2, TX2, 3, rfl, by decide, uX2, (zw_t (i := 196) (by decide +kernel) rfl)⟩
theorem flX2_9 : zFld RX2 9 2 2 := ⟨RX2, TX2, 3, rfl, by decide, uX2, (zw_t (i := 197) (by decide +kernel) rfl)⟩
theorem mlX10_53 : Cond.methodLink RX10 53 yX0_init ∈ zw := (zw_t (i := 207) (by decide +kernel) rfl)
theorem flX0_23 : zFld RX0 23 0 0 := ⟨RX0, TX0, 9, rfl, by decide, uX0, (zw_t (i := 213) (by decide +kernel) rfl)⟩
theorem flX0_27 : zFld RX0 27 0 1 := ⟨RX0, TX0, 9, rfl, by decide, uX0, (zw_t (i := 214) (by decide +kernel) rfl)⟩
theorem flX0_11 : zFld RX0 11 0 2 := ⟨RX0, TX0, 9, rfl, by decide, uX0, (zw_t (i := 215) (by decide +kernel) rfl)⟩
theorem flX0_16 : zFld RX0 16 0 3 := ⟨RX0, TX0, 9, rfl, by decide, uX0, (zw_t (i := 216) (by decide +kernel) rfl)⟩
theorem flX0_20 : zFld RX0 20 0 4 := ⟨RX0, TX0, 9, rfl, by decide, uX0, (zw_t (i := 217) (by decide +kernel) rfl)⟩
theorem flX10_216 : zFld RX10 216 0 4 := ⟨RX0, TX0, 9, rfl, by decide, uX0, (zw_t (i := 218) (by decide +kernel) rfl)⟩
theorem flX0_49 : zFld RX0 49 0 5 := ⟨RX0, TX0, 9, rfl, by decide, uX0, (zw_t (i := 219) (by decide +kernel) rfl)⟩
theorem fpX0_49 : zFldP RX0 49 0 5 .int := ⟨RX0, TX0, 9, tyX0, rfl, by decide, uX0, (zw_t (i := 219) (by decide +kernel) rfl), tyX0_ok, nmX0, rfl, by decide +kernel⟩
theorem flX10_215 : zFld RX10 215 0 5 := ⟨RX0, TX0, 9, rfl, by decide, uX0, (zw_t (i := 220) (by decide +kernel) rfl)⟩
theorem fpX10_215 : zFldP RX10 215 0 5 .int := ⟨RX0, TX0, 9, tyX0, rfl, by decide, uX0, (zw_t (i := 220) (by decide +kernel) rfl), tyX0_ok, nmX0, rfl, by decide +kernel⟩
theorem flX0_52 : zFld RX0 52 0 6 := ⟨RX0, TX0, 9, rfl, by decide, uX0, (zw_t (i := 221) (by decide +kernel) rfl)⟩
theorem fpX0_52 : zFldP RX0 52 0 6 .int := ⟨RX0, TX0, 9, tyX0, rfl, by decide, uX0, (zw_t (i := 221) (by decide +kernel) rfl), tyX0_ok, nmX0, rfl, by decide +kernel⟩
theorem flX10_212 : zFld RX10 212 0 6 := ⟨RX0, TX0, 9, rfl, by decide, uX0, (zw_t (i := 222) (by decide +kernel) rfl)⟩
theorem fpX10_212 : zFldP RX10 212 0 6 .int := ⟨RX0, TX0, 9, tyX0, rfl, by decide, uX0, (zw_t (i := 222) (by decide +kernel) rfl), tyX0_ok, nmX0, rfl, by decide +kernel⟩
theorem flX0_55 : zFld RX0 55 0 7 := ⟨RX0, TX0, 9, rfl, by decide, uX0, (zw_t (i := 223) (by decide +kernel) rfl)⟩
theorem fpX0_55 : zFldP RX0 55 0 7 .int := ⟨RX0, TX0, 9, tyX0, rfl, by decide, uX0, (zw_t (i := 223) (by decide +kernel) rfl), tyX0_ok, nmX0, rfl, by decide +kernel⟩
theorem flX10_219 : zFld RX10 219 0 7 := ⟨RX0, TX0, 9, rfl, by decide, uX0, (zw_t (i := 224) (by decide +kernel) rfl)⟩
theorem fpX10_219 : zFldP RX10 219 0 7 .int := ⟨RX0, TX0, 9, tyX0, rfl, by decide, uX0, (zw_t (i := 224) (by decide +kernel) rfl), tyX0_ok, nmX0, rfl, by decide +kernel⟩
theorem flX0_85 : zFld RX0 85 0 8 := ⟨RX0, TX0, 9, rfl, by decide, uX0, (zw_t (i := 225) (by decide +kernel) rfl)⟩
theorem fpX0_85 : zFldP RX0 85 0 8 .int := ⟨RX0, TX0, 9, tyX0, rfl, by decide, uX0, (zw_t (i := 225) (by decide +kernel) rfl), tyX0_ok, nmX0, rfl, by decide +kernel⟩
theorem flX10_225 : zFld RX10 225 0 8 := ⟨RX0, TX0, 9, rfl, by decide, uX0, (zw_t (i := 226) (by decide +kernel) rfl)⟩
theorem fpX10_225 : zFldP RX10 225 0 8 .int := ⟨RX0, TX0, 9, tyX0, rfl, by decide, uX0, (zw_t (i := 226) (by decide +kernel) rfl), tyX0_ok, nmX0, rfl, by decide +kernel⟩
theorem mlX10_60 : Cond.methodLink RX10 60 yX3_init ∈ zw := (zw_t (i := 248) (by decide +kernel) rfl)
theorem flX3_16 : zFld RX3 16 3 0 := ⟨RX3, TX3, 4, rfl, by decide, uX3, (zw_t (i := 253) (by decide +kernel) rfl)⟩
theorem flX3_20 : zFld RX3 20 3 1 := ⟨RX3, TX3, 4, rfl, by decide, uX3, (zw_t (i := 254) (by decide +kernel) rfl)⟩
theorem flX3_13 : zFld RX3 13 3 2 := ⟨RX3, TX3, 4, rfl, by decide, uX3, (zw_t (i := 255) (by decide +kernel) rfl)⟩
theorem flX10_261 : zFld RX10 261 3 2 := ⟨RX3, TX3, 4, rfl, by decide, uX3, (zw_t (i := 256) (by decide +kernel) rfl)⟩
theorem flX3_23 : zFld RX3 23 3 3 := ⟨RX3, TX3, 4, rfl, by decide, uX3, (zw_t (i := 257) (by decide +kernel) rfl)⟩
theorem fpX3_23 : zFldP RX3 23 3 3 .int := ⟨RX3, TX3, 4, tyX3, rfl, by decide, uX3, (zw_t (i := 257) (by decide +kernel) rfl), tyX3_ok, nmX3, rfl, by decide +kernel⟩
theorem flX10_257 : zFld RX10 257 3 3 := ⟨RX3, TX3, 4, rfl, by decide, uX3, (zw_t (i := 258) (by decide +kernel) rfl)⟩
theorem fpX10_257 : zFldP RX10 257 3 3 .int := ⟨RX3, TX3, 4, tyX3, rfl, by decide, uX3, (zw_t (i := 258) (by decide +kernel) rfl), tyX3_ok, nmX3, rfl, by decide +kernel⟩
theorem flX6_11 : zFld RX6 11 6 0 := ⟨RX6, TX6, 3, rfl, by decide, uX6, (zw_t (i := 275) (by decide +kernel) rfl)⟩
theorem flX7_39 : zFld RX7 39 6 0 := ⟨RX6, TX6, 3, rfl, by decide, uX6, (zw_t (i := 276) (by decide +kernel) rfl)⟩
theorem flX6_15 : zFld RX6 15 6 1 := ⟨RX6, TX6, 3, rfl, by decide, uX6, (zw_t (i := 277) (by decide +kernel) rfl)⟩
theorem flX7_42 : zFld RX7 42 6 1 := ⟨RX6, TX6, 3, rfl, by decide, uX6, (zw_t (i := 278) (by decide +kernel) rfl)⟩
theorem flX6_20 : zFld RX6 20 6 2 := ⟨RX6, TX6, 3, rfl, by decide, uX6, (zw_t (i := 279) (by decide +kernel) rfl)⟩
theorem flX10_286 : zFld RX10 286 6 2 := ⟨RX6, TX6, 3, rfl, by decide, uX6, (zw_t (i := 280) (by decide +kernel) rfl)⟩
theorem mlX10_74 : Cond.methodLink RX10 74 yX7_init ∈ zw := (zw_t (i := 290) (by decide +kernel) rfl)
theorem flX7_21 : zFld RX7 21 7 0 := ⟨RX7, TX7, 5, rfl, by decide, uX7, (zw_t (i := 294) (by decide +kernel) rfl)⟩
theorem flX7_25 : zFld RX7 25 7 1 := ⟨RX7, TX7, 5, rfl, by decide, uX7, (zw_t (i := 295) (by decide +kernel) rfl)⟩
theorem flX7_9 : zFld RX7 9 7 2 := ⟨RX7, TX7, 5, rfl, by decide, uX7, (zw_t (i := 296) (by decide +kernel) rfl)⟩
theorem flX7_15 : zFld RX7 15 7 3 := ⟨RX7, TX7, 5, rfl, by decide, uX7, (zw_t (i := 297) (by decide +kernel) rfl)⟩
theorem flX10_319 : zFld RX10 319 7 3 := ⟨RX7, TX7, 5, rfl, by decide, uX7, (zw_t (i := 298) (by decide +kernel) rfl)⟩
theorem flX7_18 : zFld RX7 18 7 4 := ⟨RX7, TX7, 5, rfl, by decide, uX7, (zw_t (i := 299) (by decide +kernel) rfl)⟩
theorem flX9_9 : zFld RX9 9 9 0 := ⟨RX9, TX9, 6, rfl, by decide, uX9, (zw_t (i := 317) (by decide +kernel) rfl)⟩
theorem flX10_334 : zFld RX10 334 9 0 := ⟨RX9, TX9, 6, rfl, by decide, uX9, (zw_t (i := 318) (by decide +kernel) rfl)⟩
theorem flX9_42 : zFld RX9 42 9 1 := ⟨RX9, TX9, 6, rfl, by decide, uX9, (zw_t (i := 319) (by decide +kernel) rfl)⟩
theorem fpX9_42 : zFldP RX9 42 9 1 .int := ⟨RX9, TX9, 6, tyX9, rfl, by decide, uX9, (zw_t (i := 319) (by decide +kernel) rfl), tyX9_ok, nmX9, rfl, by decide +kernel⟩
theorem flX10_313 : zFld RX10 313 9 1 := ⟨RX9, TX9, 6, rfl, by decide, uX9, (zw_t (i := 320) (by decide +kernel) rfl)⟩
theorem fpX10_313 : zFldP RX10 313 9 1 .int := ⟨RX9, TX9, 6, tyX9, rfl, by decide, uX9, (zw_t (i := 320) (by decide +kernel) rfl), tyX9_ok, nmX9, rfl, by decide +kernel⟩
theorem flX9_15 : zFld RX9 15 9 2 := ⟨RX9, TX9, 6, rfl, by decide, uX9, (zw_t (i := 321) (by decide +kernel) rfl)⟩
theorem fpX9_15 : zFldP RX9 15 9 2 .int := ⟨RX9, TX9, 6, tyX9, rfl, by decide, uX9, (zw_t (i := 321) (by decide +kernel) rfl), tyX9_ok, nmX9, rfl, by decide +kernel⟩
theorem flX9_19 : zFld RX9 19 9 3 := ⟨RX9, TX9, 6, rfl, by decide, uX9, (zw_t (i := 322) (by decide +kernel) rfl)⟩
theorem fpX9_19 : zFldP RX9 19 9 3 .int := ⟨RX9, TX9, 6, tyX9, rfl, by decide, uX9, (zw_t (i := 322) (by decide +kernel) rfl), tyX9_ok, nmX9, rfl, by decide +kernel⟩
theorem flX9_22 : zFld RX9 22 9 4 := ⟨RX9, TX9, 6, rfl, by decide, uX9, (zw_t (i := 323) (by decide +kernel) rfl)⟩
theorem fpX9_22 : zFldP RX9 22 9 4 .int := ⟨RX9, TX9, 6, tyX9, rfl, by decide, uX9, (zw_t (i := 323) (by decide +kernel) rfl), tyX9_ok, nmX9, rfl, by decide +kernel⟩
theorem flX9_25 : zFld RX9 25 9 5 := ⟨RX9, TX9, 6, rfl, by decide, uX9, (zw_t (i := 324) (by decide +kernel) rfl)⟩
theorem fpX9_25 : zFldP RX9 25 9 5 .boolean := ⟨RX9, TX9, 6, tyX9, rfl, by decide, uX9, (zw_t (i := 324) (by decide +kernel) rfl), tyX9_ok, nmX9, rfl, by decide +kernel⟩
theorem flX10_10 : zFld RX10 10 10 0 := ⟨RX10, TX10, 15, rfl, by decide, uX10, (zw_t (i := 338) (by decide +kernel) rfl)⟩
theorem flX10_19 : zFld RX10 19 10 1 := ⟨RX10, TX10, 15, rfl, by decide, uX10, (zw_t (i := 339) (by decide +kernel) rfl)⟩
theorem flX10_28 : zFld RX10 28 10 2 := ⟨RX10, TX10, 15, rfl, by decide, uX10, (zw_t (i := 340) (by decide +kernel) rfl)⟩
theorem flX10_32 : zFld RX10 32 10 3 := ⟨RX10, TX10, 15, rfl, by decide, uX10, (zw_t (i := 341) (by decide +kernel) rfl)⟩
theorem flX10_38 : zFld RX10 38 10 4 := ⟨RX10, TX10, 15, rfl, by decide, uX10, (zw_t (i := 342) (by decide +kernel) rfl)⟩
theorem flX10_47 : zFld RX10 47 10 5 := ⟨RX10, TX10, 15, rfl, by decide, uX10, (zw_t (i := 343) (by decide +kernel) rfl)⟩
theorem flX10_54 : zFld RX10 54 10 6 := ⟨RX10, TX10, 15, rfl, by decide, uX10, (zw_t (i := 344) (by decide +kernel) rfl)⟩
theorem flX10_61 : zFld RX10 61 10 7 := ⟨RX10, TX10, 15, rfl, by decide, uX10, (zw_t (i := 345) (by decide +kernel) rfl)⟩
theorem flX10_68 : zFld RX10 68 10 8 := ⟨RX10, TX10, 15, rfl, by decide, uX10, (zw_t (i := 346) (by decide +kernel) rfl)⟩
theorem flX10_77 : zFld RX10 77 10 9 := ⟨RX10, TX10, 15, rfl, by decide, uX10, (zw_t (i := 347) (by decide +kernel) rfl)⟩
theorem flX10_84 : zFld RX10 84 10 10 := ⟨RX10, TX10, 15, rfl, by decide, uX10, (zw_t (i := 348) (by decide +kernel) rfl)⟩
theorem flX10_88 : zFld RX10 88 10 11 := ⟨RX10, TX10, 15, rfl, by decide, uX10, (zw_t (i := 349) (by decide +kernel) rfl)⟩
theorem flX10_91 : zFld RX10 91 10 12 := ⟨RX10, TX10, 15, rfl, by decide, uX10, (zw_t (i := 350) (by decide +kernel) rfl)⟩
theorem flX10_94 : zFld RX10 94 10 13 := ⟨RX10, TX10, 15, rfl, by decide, uX10, (zw_t (i := 351) (by decide +kernel) rfl)⟩
theorem flX10_97 : zFld RX10 97 10 14 := ⟨RX10, TX10, 15, rfl, by decide, uX10, (zw_t (i := 352) (by decide +kernel) rfl)⟩
theorem fpX10_97 : zFldP RX10 97 10 14 .boolean := ⟨RX10, TX10, 15, tyX10, rfl, by decide, uX10, (zw_t (i := 352) (by decide +kernel) rfl), tyX10_ok, nmX10, rfl, by decide +kernel⟩
theorem mlL_13 : Cond.methodLink RL 13 yX10_lamp ∈ zw := (zw_t (i := 384) (by decide +kernel) rfl)
theorem mlX10_101 : Cond.methodLink RX10 101 yX10_isLampKind ∈ zw := (zw_t (i := 388) (by decide +kernel) rfl)
theorem mlX10_135 : Cond.methodLink RX10 135 yX10_isIn ∈ zw := (zw_t (i := 391) (by decide +kernel) rfl)
theorem mlX10_105 : Cond.methodLink RX10 105 yX10_fits ∈ zw := (zw_t (i := 394) (by decide +kernel) rfl)
theorem mlX10_109 : Cond.methodLink RX10 109 yX8_addLamp ∈ zw := (zw_t (i := 397) (by decide +kernel) rfl)
theorem mlL_18 : Cond.methodLink RL 18 yX10_lampOf ∈ zw := (zw_t (i := 401) (by decide +kernel) rfl)
theorem mlX10_113 : Cond.methodLink RX10 113 yX8_hasLamp ∈ zw := (zw_t (i := 405) (by decide +kernel) rfl)
theorem mlX10_116 : Cond.methodLink RX10 116 yX8_fieldOf ∈ zw := (zw_t (i := 409) (by decide +kernel) rfl)
theorem mlX10_120 : Cond.methodLink RX10 120 yX8_goalOf ∈ zw := (zw_t (i := 413) (by decide +kernel) rfl)
theorem mlX8_66 : Cond.methodLink RX8 66 yX8_placeNear ∈ zw := (zw_t (i := 417) (by decide +kernel) rfl)
theorem mlX8_70 : Cond.methodLink RX8 70 yX8_tellFacts ∈ zw := (zw_t (i := 421) (by decide +kernel) rfl)
theorem mlX8_78 : Cond.methodLink RX8 78 yX8_isUnder ∈ zw := (zw_t (i := 425) (by decide +kernel) rfl)
theorem mlX8_82 : Cond.methodLink RX8 82 yX5_holds ∈ zw := (zw_t (i := 430) (by decide +kernel) rfl)
theorem mlX5_40 : Cond.methodLink RX5 40 yX5_valueOf ∈ zw := (zw_t (i := 434) (by decide +kernel) rfl)
theorem mlX5_44 : Cond.methodLink RX5 44 yX5_combine ∈ zw := (zw_t (i := 437) (by decide +kernel) rfl)
theorem mlX10_124 : Cond.methodLink RX10 124 yX8_isOver ∈ zw := (zw_t (i := 440) (by decide +kernel) rfl)
theorem mlX10_128 : Cond.methodLink RX10 128 yX8_aimBehind ∈ zw := (zw_t (i := 444) (by decide +kernel) rfl)
theorem mlX8_89 : Cond.methodLink RX8 89 yX8_goalOf ∈ zw := (zw_t (i := 448) (by decide +kernel) rfl)
theorem mlX8_92 : Cond.methodLink RX8 92 yX8_wayOf ∈ zw := (zw_t (i := 449) (by decide +kernel) rfl)
theorem mlX8_96 : Cond.methodLink RX8 96 yX8_held ∈ zw := (zw_t (i := 453) (by decide +kernel) rfl)
theorem mlX8_124 : Cond.methodLink RX8 124 yJ9_min_7cf53 ∈ zw := (zw_t (i := 456) (by decide +kernel) rfl)
theorem mlX8_129 : Cond.methodLink RX8 129 yJ9_max_7cf53 ∈ zw := (zw_t (i := 459) (by decide +kernel) rfl)
theorem mlX8_100 : Cond.methodLink RX8 100 yJ6_compare_7cf53 ∈ zw := (zw_t (i := 462) (by decide +kernel) rfl)
theorem mlL_23 : Cond.methodLink RL 23 yX10_change ∈ zw := (zw_t (i := 465) (by decide +kernel) rfl)
theorem mlX10_131 : Cond.methodLink RX10 131 yX8_exchange ∈ zw := (zw_t (i := 469) (by decide +kernel) rfl)
theorem mlX8_62 : Cond.methodLink RX8 62 yX8_fieldOf ∈ zw := (zw_t (i := 473) (by decide +kernel) rfl)
theorem mlL_28 : Cond.methodLink RL 28 yX10_remake ∈ zw := (zw_t (i := 474) (by decide +kernel) rfl)
theorem mlL_32 : Cond.methodLink RL 32 yX10_dance ∈ zw := (zw_t (i := 478) (by decide +kernel) rfl)
theorem mlX10_139 : Cond.methodLink RX10 139 yX8_addBeat ∈ zw := (zw_t (i := 482) (by decide +kernel) rfl)
theorem mlL_37 : Cond.methodLink RL 37 yX10_danceOf ∈ zw := (zw_t (i := 486) (by decide +kernel) rfl)
theorem mlX10_142 : Cond.methodLink RX10 142 yX8_hasBeat ∈ zw := (zw_t (i := 490) (by decide +kernel) rfl)
theorem mlL_41 : Cond.methodLink RL 41 yX10_steps ∈ zw := (zw_t (i := 494) (by decide +kernel) rfl)
theorem mlL_45 : Cond.methodLink RL 45 yX10_anew ∈ zw := (zw_t (i := 498) (by decide +kernel) rfl)
theorem mlL_50 : Cond.methodLink RL 50 yX10_state ∈ zw := (zw_t (i := 502) (by decide +kernel) rfl)
theorem mlL_56 : Cond.methodLink RL 56 yX10_feed ∈ zw := (zw_t (i := 506) (by decide +kernel) rfl)
theorem mlX10_162 : Cond.methodLink RX10 162 yX4_take ∈ zw := (zw_t (i := 510) (by decide +kernel) rfl)
theorem mlL_61 : Cond.methodLink RL 61 yX10_rules ∈ zw := (zw_t (i := 514) (by decide +kernel) rfl)
theorem mlX10_166 : Cond.methodLink RX10 166 yX4_readInto ∈ zw := (zw_t (i := 518) (by decide +kernel) rfl)
theorem mlX4_35 : Cond.methodLink RX4 35 yX4_scan ∈ zw := (zw_t (i := 522) (by decide +kernel) rfl)
theorem mlX4_80 : Cond.methodLink RX4 80 yX4_scanToken ∈ zw := (zw_t (i := 526) (by decide +kernel) rfl)
theorem mlX4_84 : Cond.methodLink RX4 84 yX4_isLetter ∈ zw := (zw_t (i := 530) (by decide +kernel) rfl)
theorem mlX4_87 : Cond.methodLink RX4 87 yX4_wordFrom ∈ zw := (zw_t (i := 533) (by decide +kernel) rfl)
theorem mlX4_93 : Cond.methodLink RX4 93 yX4_nameOf ∈ zw := (zw_t (i := 537) (by decide +kernel) rfl)
theorem mlX4_97 : Cond.methodLink RX4 97 yX4_isName ∈ zw := (zw_t (i := 558) (by decide +kernel) rfl)
theorem mlX4_101 : Cond.methodLink RX4 101 yJ0_length_8abf5 ∈ zw := (zw_t (i := 562) (by decide +kernel) rfl)
theorem mlJ0_335 : Cond.methodLink RJ0 335 yJ0_coder_7d493 ∈ zw := (zw_t (i := 566) (by decide +kernel) rfl)
theorem mlX4_105 : Cond.methodLink RX4 105 yJ0_charAt_5068e ∈ zw := (zw_t (i := 572) (by decide +kernel) rfl)
theorem mlJ0_492 : Cond.methodLink RJ0 492 yJ0_isLatin1_aae02 ∈ zw := (zw_t (i := 576) (by decide +kernel) rfl)
theorem mlJ0_495 : Cond.methodLink RJ0 495 yJ1_charAt_3b067 ∈ zw := (zw_t (i := 580) (by decide +kernel) rfl)
theorem mlJ1_9 : Cond.methodLink RJ1 9 yJ0_checkIndex_df160 ∈ zw := (zw_t (i := 583) (by decide +kernel) rfl)
theorem mlJ0_1059 : Cond.methodLink RJ0 1059 yJ3_checkIndex_8e157 ∈ zw := (zw_t (i := 588) (by decide +kernel) rfl)
theorem mlJ0_498 : Cond.methodLink RJ0 498 yJ2_charAt_3b067 ∈ zw := (zw_t (i := 591) (by decide +kernel) rfl)
theorem mlJ2_67 : Cond.methodLink RJ2 67 yJ2_checkIndex_2214a ∈ zw := (zw_t (i := 594) (by decide +kernel) rfl)
theorem mlJ2_48 : Cond.methodLink RJ2 48 yJ2_length_9d52b ∈ zw := (zw_t (i := 597) (by decide +kernel) rfl)
theorem mlJ2_414 : Cond.methodLink RJ2 414 yJ0_checkIndex_df160 ∈ zw := (zw_t (i := 600) (by decide +kernel) rfl)
theorem mlJ2_71 : Cond.methodLink RJ2 71 yJ2_getChar_3b067 ∈ zw := (zw_t (i := 601) (by decide +kernel) rfl)
theorem mlX4_90 : Cond.methodLink RX4 90 yX4_isDigit ∈ zw := (zw_t (i := 610) (by decide +kernel) rfl)
theorem mlX4_41 : Cond.methodLink RX4 41 yX5_clear ∈ zw := (zw_t (i := 613) (by decide +kernel) rfl)
theorem mlX4_44 : Cond.methodLink RX4 44 yX4_readRule ∈ zw := (zw_t (i := 617) (by decide +kernel) rfl)
theorem mlX4_52 : Cond.methodLink RX4 52 yX4_readAny ∈ zw := (zw_t (i := 621) (by decide +kernel) rfl)
theorem mlX4_60 : Cond.methodLink RX4 60 yX4_readAll ∈ zw := (zw_t (i := 625) (by decide +kernel) rfl)
theorem mlX4_67 : Cond.methodLink RX4 67 yX4_readOne ∈ zw := (zw_t (i := 629) (by decide +kernel) rfl)
theorem mlX4_70 : Cond.methodLink RX4 70 yX4_readValue ∈ zw := (zw_t (i := 633) (by decide +kernel) rfl)
theorem mlX4_63 : Cond.methodLink RX4 63 yX5_addCode ∈ zw := (zw_t (i := 637) (by decide +kernel) rfl)
theorem mlX4_73 : Cond.methodLink RX4 73 yX4_signHere ∈ zw := (zw_t (i := 641) (by decide +kernel) rfl)
theorem mlX4_56 : Cond.methodLink RX4 56 yX5_addRule ∈ zw := (zw_t (i := 645) (by decide +kernel) rfl)
theorem mlX4_48 : Cond.methodLink RX4 48 yX5_copyFrom ∈ zw := (zw_t (i := 649) (by decide +kernel) rfl)
theorem mlL_65 : Cond.methodLink RL 65 yX10_beat ∈ zw := (zw_t (i := 657) (by decide +kernel) rfl)
theorem mlX10_173 : Cond.methodLink RX10 173 yX8_goBy ∈ zw := (zw_t (i := 661) (by decide +kernel) rfl)
theorem mlX8_111 : Cond.methodLink RX8 111 yX8_aimBehind ∈ zw := (zw_t (i := 665) (by decide +kernel) rfl)
theorem mlX8_114 : Cond.methodLink RX8 114 yX8_worthOf ∈ zw := (zw_t (i := 666) (by decide +kernel) rfl)
theorem mlX8_108 : Cond.methodLink RX8 108 yX8_sightOf ∈ zw := (zw_t (i := 670) (by decide +kernel) rfl)
theorem mlX8_105 : Cond.methodLink RX8 105 yX8_sightFor ∈ zw := (zw_t (i := 674) (by decide +kernel) rfl)
theorem mlX8_132 : Cond.methodLink RX8 132 yJ9_abs_0f7a4 ∈ zw := (zw_t (i := 677) (by decide +kernel) rfl)
theorem mlL_69 : Cond.methodLink RL 69 yX10_in ∈ zw := (zw_t (i := 680) (by decide +kernel) rfl)
theorem mlX10_176 : Cond.methodLink RX10 176 yX8_setOf ∈ zw := (zw_t (i := 684) (by decide +kernel) rfl)
theorem mlL_73 : Cond.methodLink RL 73 yX10_shows ∈ zw := (zw_t (i := 688) (by decide +kernel) rfl)
theorem mlX10_182 : Cond.methodLink RX10 182 yX2_worthWith ∈ zw := (zw_t (i := 692) (by decide +kernel) rfl)
theorem mlX2_22 : Cond.methodLink RX2 22 yX8_copyFrom ∈ zw := (zw_t (i := 696) (by decide +kernel) rfl)
theorem mlX2_36 : Cond.methodLink RX2 36 yX8_exchange ∈ zw := (zw_t (i := 701) (by decide +kernel) rfl)
theorem mlX2_32 : Cond.methodLink RX2 32 yX8_goBy ∈ zw := (zw_t (i := 702) (by decide +kernel) rfl)
theorem mlX2_47 : Cond.methodLink RX2 47 yX8_worthOf ∈ zw := (zw_t (i := 703) (by decide +kernel) rfl)
theorem mlL_77 : Cond.methodLink RL 77 yX10_on ∈ zw := (zw_t (i := 704) (by decide +kernel) rfl)
theorem mlX10_185 : Cond.methodLink RX10 185 yX2_worthOfBeats ∈ zw := (zw_t (i := 708) (by decide +kernel) rfl)
theorem mlX2_28 : Cond.methodLink RX2 28 yX8_isOver ∈ zw := (zw_t (i := 712) (by decide +kernel) rfl)
theorem mlL_81 : Cond.methodLink RL 81 yX10_lost ∈ zw := (zw_t (i := 713) (by decide +kernel) rfl)
theorem mlX10_191 : Cond.methodLink RX10 191 yX2_firstOutWith ∈ zw := (zw_t (i := 717) (by decide +kernel) rfl)
theorem mlX2_53 : Cond.methodLink RX2 53 yX8_sightOf ∈ zw := (zw_t (i := 721) (by decide +kernel) rfl)
theorem mlL_85 : Cond.methodLink RL 85 yX10_crosses ∈ zw := (zw_t (i := 722) (by decide +kernel) rfl)
theorem mlX10_195 : Cond.methodLink RX10 195 yX2_crossings ∈ zw := (zw_t (i := 726) (by decide +kernel) rfl)
theorem mlX2_63 : Cond.methodLink RX2 63 yJ6_compare_7cf53 ∈ zw := (zw_t (i := 730) (by decide +kernel) rfl)
theorem mlL_89 : Cond.methodLink RL 89 yX10_sized ∈ zw := (zw_t (i := 731) (by decide +kernel) rfl)
theorem mlX10_198 : Cond.methodLink RX10 198 yX2_worthiest ∈ zw := (zw_t (i := 735) (by decide +kernel) rfl)
theorem mlX2_50 : Cond.methodLink RX2 50 yX2_worthWith ∈ zw := (zw_t (i := 739) (by decide +kernel) rfl)
theorem mlL_93 : Cond.methodLink RL 93 yX10_aimed ∈ zw := (zw_t (i := 740) (by decide +kernel) rfl)
theorem mlL_97 : Cond.methodLink RL 97 yX10_stepFor ∈ zw := (zw_t (i := 744) (by decide +kernel) rfl)
theorem mlX10_201 : Cond.methodLink RX10 201 yX2_leastStep ∈ zw := (zw_t (i := 748) (by decide +kernel) rfl)
theorem mlX2_56 : Cond.methodLink RX2 56 yX2_firstOutWith ∈ zw := (zw_t (i := 752) (by decide +kernel) rfl)
theorem mlL_101 : Cond.methodLink RL 101 yX10_who ∈ zw := (zw_t (i := 753) (by decide +kernel) rfl)
theorem mlX10_204 : Cond.methodLink RX10 204 yX2_fewestLamps ∈ zw := (zw_t (i := 757) (by decide +kernel) rfl)
theorem mlX2_68 : Cond.methodLink RX2 68 yX8_setOf ∈ zw := (zw_t (i := 761) (by decide +kernel) rfl)
theorem mlX2_74 : Cond.methodLink RX2 74 yJ6_bitCount_0f7a4 ∈ zw := (zw_t (i := 762) (by decide +kernel) rfl)
theorem cwJ6_265 : Cond.constant RJ6 265 (1431655765) ∈ zw := (zw_t (i := 765) (by decide +kernel) rfl)
theorem cwJ6_266 : Cond.constant RJ6 266 (858993459) ∈ zw := (zw_t (i := 766) (by decide +kernel) rfl)
theorem cwJ6_267 : Cond.constant RJ6 267 (252645135) ∈ zw := (zw_t (i := 767) (by decide +kernel) rfl)
theorem mlX2_77 : Cond.methodLink RX2 77 yX2_isNeverDark ∈ zw := (zw_t (i := 768) (by decide +kernel) rfl)
theorem mlL_105 : Cond.methodLink RL 105 yX10_best ∈ zw := (zw_t (i := 772) (by decide +kernel) rfl)
theorem mlX10_208 : Cond.methodLink RX10 208 yX0_findBest ∈ zw := (zw_t (i := 776) (by decide +kernel) rfl)
theorem mlX0_30 : Cond.methodLink RX0 30 yX8_copyFrom ∈ zw := (zw_t (i := 780) (by decide +kernel) rfl)
theorem mlX0_43 : Cond.methodLink RX0 43 yJ9_min_7cf53 ∈ zw := (zw_t (i := 781) (by decide +kernel) rfl)
theorem mlX0_58 : Cond.methodLink RX0 58 yX0_search ∈ zw := (zw_t (i := 782) (by decide +kernel) rfl)
theorem mlX0_62 : Cond.methodLink RX0 62 yX0_weigh ∈ zw := (zw_t (i := 785) (by decide +kernel) rfl)
theorem mlX0_69 : Cond.methodLink RX0 69 yX0_keepAims ∈ zw := (zw_t (i := 790) (by decide +kernel) rfl)
theorem mlX0_72 : Cond.methodLink RX0 72 yX8_goBy ∈ zw := (zw_t (i := 794) (by decide +kernel) rfl)
theorem mlX0_76 : Cond.methodLink RX0 76 yX0_takeBack ∈ zw := (zw_t (i := 795) (by decide +kernel) rfl)
theorem mlL_109 : Cond.methodLink RL 109 yX10_ith ∈ zw := (zw_t (i := 799) (by decide +kernel) rfl)
theorem mlL_113 : Cond.methodLink RL 113 yX10_ways ∈ zw := (zw_t (i := 803) (by decide +kernel) rfl)
theorem mlL_117 : Cond.methodLink RL 117 yX10_game ∈ zw := (zw_t (i := 807) (by decide +kernel) rfl)
theorem mlX10_222 : Cond.methodLink RX10 222 yX0_gameValue ∈ zw := (zw_t (i := 811) (by decide +kernel) rfl)
theorem mlX0_88 : Cond.methodLink RX0 88 yX0_valueFrom ∈ zw := (zw_t (i := 815) (by decide +kernel) rfl)
theorem mlL_121 : Cond.methodLink RL 121 yX10_play ∈ zw := (zw_t (i := 818) (by decide +kernel) rfl)
theorem mlL_125 : Cond.methodLink RL 125 yX10_report ∈ zw := (zw_t (i := 822) (by decide +kernel) rfl)
theorem mlX10_228 : Cond.methodLink RX10 228 yX1_addReport ∈ zw := (zw_t (i := 826) (by decide +kernel) rfl)
theorem mlL_129 : Cond.methodLink RL 129 yX10_forget ∈ zw := (zw_t (i := 830) (by decide +kernel) rfl)
theorem mlL_133 : Cond.methodLink RL 133 yX10_span ∈ zw := (zw_t (i := 834) (by decide +kernel) rfl)
theorem mlX10_232 : Cond.methodLink RX10 232 yX1_countWalks ∈ zw := (zw_t (i := 838) (by decide +kernel) rfl)
theorem mlX1_34 : Cond.methodLink RX1 34 yX1_fitsAll ∈ zw := (zw_t (i := 842) (by decide +kernel) rfl)
theorem mlX1_44 : Cond.methodLink RX1 44 yX8_held ∈ zw := (zw_t (i := 846) (by decide +kernel) rfl)
theorem mlX1_50 : Cond.methodLink RX1 50 yX8_sightFor ∈ zw := (zw_t (i := 847) (by decide +kernel) rfl)
theorem mlL_137 : Cond.methodLink RL 137 yX10_liar ∈ zw := (zw_t (i := 848) (by decide +kernel) rfl)
theorem mlX10_241 : Cond.methodLink RX10 241 yX1_leastLiar ∈ zw := (zw_t (i := 852) (by decide +kernel) rfl)
theorem mlX1_53 : Cond.methodLink RX1 53 yX1_countWalks ∈ zw := (zw_t (i := 856) (by decide +kernel) rfl)
theorem mlL_141 : Cond.methodLink RL 141 yX10_seed ∈ zw := (zw_t (i := 857) (by decide +kernel) rfl)
theorem mlL_145 : Cond.methodLink RL 145 yX10_lot ∈ zw := (zw_t (i := 861) (by decide +kernel) rfl)
theorem mlX10_247 : Cond.methodLink RX10 247 yX8_goByLot ∈ zw := (zw_t (i := 865) (by decide +kernel) rfl)
theorem mlX8_117 : Cond.methodLink RX8 117 yX8_hasBeat ∈ zw := (zw_t (i := 869) (by decide +kernel) rfl)
theorem cwX8_120 : Cond.constant RX8 120 (1103515245) ∈ zw := (zw_t (i := 870) (by decide +kernel) rfl)
theorem mlX8_121 : Cond.methodLink RX8 121 yX8_goBy ∈ zw := (zw_t (i := 871) (by decide +kernel) rfl)
theorem mlL_149 : Cond.methodLink RL 149 yX10_often ∈ zw := (zw_t (i := 872) (by decide +kernel) rfl)
theorem mlX10_250 : Cond.methodLink RX10 250 yX2_timesWorth ∈ zw := (zw_t (i := 876) (by decide +kernel) rfl)
theorem mlX2_84 : Cond.methodLink RX2 84 yX8_goByLot ∈ zw := (zw_t (i := 880) (by decide +kernel) rfl)
theorem mlL_153 : Cond.methodLink RL 153 yX10_prove ∈ zw := (zw_t (i := 881) (by decide +kernel) rfl)
theorem mlX10_253 : Cond.methodLink RX10 253 yX3_tell ∈ zw := (zw_t (i := 885) (by decide +kernel) rfl)
theorem mlX3_27 : Cond.methodLink RX3 27 yX8_copyFrom ∈ zw := (zw_t (i := 889) (by decide +kernel) rfl)
theorem mlX3_33 : Cond.methodLink RX3 33 yJ9_min_7cf53 ∈ zw := (zw_t (i := 890) (by decide +kernel) rfl)
theorem mlX3_39 : Cond.methodLink RX3 39 yX8_goBy ∈ zw := (zw_t (i := 891) (by decide +kernel) rfl)
theorem mlX3_43 : Cond.methodLink RX3 43 yX8_setOf ∈ zw := (zw_t (i := 892) (by decide +kernel) rfl)
theorem mlL_157 : Cond.methodLink RL 157 yX10_row ∈ zw := (zw_t (i := 893) (by decide +kernel) rfl)
theorem mlX10_258 : Cond.methodLink RX10 258 yX3_hasCell ∈ zw := (zw_t (i := 897) (by decide +kernel) rfl)
theorem mlL_161 : Cond.methodLink RL 161 yX10_alterRow ∈ zw := (zw_t (i := 901) (by decide +kernel) rfl)
theorem mlL_165 : Cond.methodLink RL 165 yX10_judge ∈ zw := (zw_t (i := 905) (by decide +kernel) rfl)
theorem mlX10_265 : Cond.methodLink RX10 265 yX3_firstWrong ∈ zw := (zw_t (i := 909) (by decide +kernel) rfl)
theorem mlX3_46 : Cond.methodLink RX3 46 yX8_isOver ∈ zw := (zw_t (i := 913) (by decide +kernel) rfl)
theorem mlX3_50 : Cond.methodLink RX3 50 yX8_isAct ∈ zw := (zw_t (i := 914) (by decide +kernel) rfl)
theorem mlX8_58 : Cond.methodLink RX8 58 yX8_hasLamp ∈ zw := (zw_t (i := 918) (by decide +kernel) rfl)
theorem mlL_169 : Cond.methodLink RL 169 yX10_sheet ∈ zw := (zw_t (i := 919) (by decide +kernel) rfl)
theorem mlX10_268 : Cond.methodLink RX10 268 yX6_isSheet ∈ zw := (zw_t (i := 923) (by decide +kernel) rfl)
theorem mlX10_271 : Cond.methodLink RX10 271 yX6_renew ∈ zw := (zw_t (i := 926) (by decide +kernel) rfl)
theorem mlX6_23 : Cond.methodLink RX6 23 yX8_held ∈ zw := (zw_t (i := 930) (by decide +kernel) rfl)
theorem mlL_173 : Cond.methodLink RL 173 yX10_write ∈ zw := (zw_t (i := 931) (by decide +kernel) rfl)
theorem mlX10_274 : Cond.methodLink RX10 274 yX6_isMissing ∈ zw := (zw_t (i := 935) (by decide +kernel) rfl)
theorem mlX10_277 : Cond.methodLink RX10 277 yX6_hasItem ∈ zw := (zw_t (i := 939) (by decide +kernel) rfl)
theorem mlX10_280 : Cond.methodLink RX10 280 yX6_put ∈ zw := (zw_t (i := 943) (by decide +kernel) rfl)
theorem mlX6_29 : Cond.methodLink RX6 29 yX6_narrowed ∈ zw := (zw_t (i := 947) (by decide +kernel) rfl)
theorem mlL_177 : Cond.methodLink RL 177 yX10_item ∈ zw := (zw_t (i := 950) (by decide +kernel) rfl)
theorem mlX10_283 : Cond.methodLink RX10 283 yX6_refusalAs ∈ zw := (zw_t (i := 954) (by decide +kernel) rfl)
theorem mlX6_33 : Cond.methodLink RX6 33 yX6_isMissing ∈ zw := (zw_t (i := 958) (by decide +kernel) rfl)
theorem mlL_181 : Cond.methodLink RL 181 yX10_goAll ∈ zw := (zw_t (i := 959) (by decide +kernel) rfl)
theorem mlX10_289 : Cond.methodLink RX10 289 yX10_goByItems ∈ zw := (zw_t (i := 963) (by decide +kernel) rfl)
theorem mlX10_349 : Cond.methodLink RX10 349 yX8_isAct ∈ zw := (zw_t (i := 967) (by decide +kernel) rfl)
theorem mlL_185 : Cond.methodLink RL 185 yX10_wouldBe ∈ zw := (zw_t (i := 968) (by decide +kernel) rfl)
theorem mlX10_292 : Cond.methodLink RX10 292 yX10_worthOfItems ∈ zw := (zw_t (i := 972) (by decide +kernel) rfl)
theorem mlX10_340 : Cond.methodLink RX10 340 yX8_copyFrom ∈ zw := (zw_t (i := 976) (by decide +kernel) rfl)
theorem mlL_189 : Cond.methodLink RL 189 yX10_shelf ∈ zw := (zw_t (i := 977) (by decide +kernel) rfl)
theorem mlX10_295 : Cond.methodLink RX10 295 yX7_isShelf ∈ zw := (zw_t (i := 981) (by decide +kernel) rfl)
theorem mlX10_298 : Cond.methodLink RX10 298 yX7_putLamp ∈ zw := (zw_t (i := 984) (by decide +kernel) rfl)
theorem mlX10_301 : Cond.methodLink RX10 301 yX7_putRow ∈ zw := (zw_t (i := 988) (by decide +kernel) rfl)
theorem mlX7_29 : Cond.methodLink RX7 29 yX6_isMissing ∈ zw := (zw_t (i := 992) (by decide +kernel) rfl)
theorem mlX7_35 : Cond.methodLink RX7 35 yX7_putNothing ∈ zw := (zw_t (i := 993) (by decide +kernel) rfl)
theorem mlX10_304 : Cond.methodLink RX10 304 yX7_putNothing ∈ zw := (zw_t (i := 997) (by decide +kernel) rfl)
theorem mlL_193 : Cond.methodLink RL 193 yX10_taken ∈ zw := (zw_t (i := 998) (by decide +kernel) rfl)
theorem mlX10_307 : Cond.methodLink RX10 307 yX7_asLamp ∈ zw := (zw_t (i := 1002) (by decide +kernel) rfl)
theorem mlX7_48 : Cond.methodLink RX7 48 yX7_holdsLamp ∈ zw := (zw_t (i := 1006) (by decide +kernel) rfl)
theorem mlX7_43 : Cond.methodLink RX7 43 yX8_hasLamp ∈ zw := (zw_t (i := 1010) (by decide +kernel) rfl)
theorem mlX7_54 : Cond.methodLink RX7 54 yX8_isUnder ∈ zw := (zw_t (i := 1011) (by decide +kernel) rfl)
theorem mlX10_310 : Cond.methodLink RX10 310 yX7_asRow ∈ zw := (zw_t (i := 1012) (by decide +kernel) rfl)
theorem mlL_197 : Cond.methodLink RL 197 yX10_act ∈ zw := (zw_t (i := 1016) (by decide +kernel) rfl)
theorem mlX10_316 : Cond.methodLink RX10 316 yX7_holdsLamp ∈ zw := (zw_t (i := 1020) (by decide +kernel) rfl)
theorem mlX10_327 : Cond.methodLink RX10 327 yX9_become ∈ zw := (zw_t (i := 1021) (by decide +kernel) rfl)
theorem mlX10_331 : Cond.methodLink RX10 331 yX9_answer ∈ zw := (zw_t (i := 1025) (by decide +kernel) rfl)
theorem mlX9_29 : Cond.methodLink RX9 29 yX9_aims ∈ zw := (zw_t (i := 1029) (by decide +kernel) rfl)
theorem mlX9_45 : Cond.methodLink RX9 45 yX9_begin ∈ zw := (zw_t (i := 1033) (by decide +kernel) rfl)
theorem mlX9_33 : Cond.methodLink RX9 33 yX9_swings ∈ zw := (zw_t (i := 1037) (by decide +kernel) rfl)
theorem mlX9_36 : Cond.methodLink RX9 36 yX9_dims ∈ zw := (zw_t (i := 1041) (by decide +kernel) rfl)
theorem mlX9_39 : Cond.methodLink RX9 39 yX9_follows ∈ zw := (zw_t (i := 1045) (by decide +kernel) rfl)
theorem mlL_201 : Cond.methodLink RL 201 yX10_trace ∈ zw := (zw_t (i := 1049) (by decide +kernel) rfl)
theorem mlL_205 : Cond.methodLink RL 205 yX10_many ∈ zw := (zw_t (i := 1053) (by decide +kernel) rfl)
theorem mlL_209 : Cond.methodLink RL 209 yX10_keep ∈ zw := (zw_t (i := 1057) (by decide +kernel) rfl)
theorem mlX10_344 : Cond.methodLink RX10 344 yX5_copyFrom ∈ zw := (zw_t (i := 1061) (by decide +kernel) rfl)
theorem mlX10_346 : Cond.methodLink RX10 346 yX1_copyFrom ∈ zw := (zw_t (i := 1062) (by decide +kernel) rfl)
theorem mlL_213 : Cond.methodLink RL 213 yX10_again ∈ zw := (zw_t (i := 1067) (by decide +kernel) rfl)
theorem mlL_12 : Cond.methodLink RL 12 yX11_init ∈ zw := (zw_t (i := 1073) (by decide +kernel) rfl)
theorem flX11_9 : zFld RX11 9 11 0 := ⟨RX11, TX11, 40, rfl, by decide, uX11, (zw_t (i := 1078) (by decide +kernel) rfl)⟩
theorem flX11_13 : zFld RX11 13 11 1 := ⟨RX11, TX11, 40, rfl, by decide, uX11, (zw_t (i := 1079) (by decide +kernel) rfl)⟩
theorem flX11_16 : zFld RX11 16 11 2 := ⟨RX11, TX11, 40, rfl, by decide, uX11, (zw_t (i := 1080) (by decide +kernel) rfl)⟩
theorem flX11_431 : zFld RX11 431 11 3 := ⟨RX11, TX11, 40, rfl, by decide, uX11, (zw_t (i := 1081) (by decide +kernel) rfl)⟩
theorem fpX11_431 : zFldP RX11 431 11 3 .boolean := ⟨RX11, TX11, 40, tyX11, rfl, by decide, uX11, (zw_t (i := 1081) (by decide +kernel) rfl), tyX11_ok, nmX11, rfl, by decide +kernel⟩
theorem flX11_19 : zFld RX11 19 11 4 := ⟨RX11, TX11, 40, rfl, by decide, uX11, (zw_t (i := 1082) (by decide +kernel) rfl)⟩
theorem flX11_22 : zFld RX11 22 11 5 := ⟨RX11, TX11, 40, rfl, by decide, uX11, (zw_t (i := 1083) (by decide +kernel) rfl)⟩
theorem flX11_155 : zFld RX11 155 11 6 := ⟨RX11, TX11, 40, rfl, by decide, uX11, (zw_t (i := 1084) (by decide +kernel) rfl)⟩
theorem fpX11_155 : zFldP RX11 155 11 6 .int := ⟨RX11, TX11, 40, tyX11, rfl, by decide, uX11, (zw_t (i := 1084) (by decide +kernel) rfl), tyX11_ok, nmX11, rfl, by decide +kernel⟩
theorem flX11_25 : zFld RX11 25 11 7 := ⟨RX11, TX11, 40, rfl, by decide, uX11, (zw_t (i := 1085) (by decide +kernel) rfl)⟩
theorem flX11_161 : zFld RX11 161 11 8 := ⟨RX11, TX11, 40, rfl, by decide, uX11, (zw_t (i := 1086) (by decide +kernel) rfl)⟩
theorem fpX11_161 : zFldP RX11 161 11 8 .int := ⟨RX11, TX11, 40, tyX11, rfl, by decide, uX11, (zw_t (i := 1086) (by decide +kernel) rfl), tyX11_ok, nmX11, rfl, by decide +kernel⟩
theorem flX11_164 : zFld RX11 164 11 9 := ⟨RX11, TX11, 40, rfl, by decide, uX11, (zw_t (i := 1087) (by decide +kernel) rfl)⟩
theorem fpX11_164 : zFldP RX11 164 11 9 .int := ⟨RX11, TX11, 40, tyX11, rfl, by decide, uX11, (zw_t (i := 1087) (by decide +kernel) rfl), tyX11_ok, nmX11, rfl, by decide +kernel⟩
theorem flX11_167 : zFld RX11 167 11 10 := ⟨RX11, TX11, 40, rfl, by decide, uX11, (zw_t (i := 1088) (by decide +kernel) rfl)⟩
theorem fpX11_167 : zFldP RX11 167 11 10 .int := ⟨RX11, TX11, 40, tyX11, rfl, by decide, uX11, (zw_t (i := 1088) (by decide +kernel) rfl), tyX11_ok, nmX11, rfl, by decide +kernel⟩
theorem flX11_176 : zFld RX11 176 11 11 := ⟨RX11, TX11, 40, rfl, by decide, uX11, (zw_t (i := 1089) (by decide +kernel) rfl)⟩
theorem fpX11_176 : zFldP RX11 176 11 11 .int := ⟨RX11, TX11, 40, tyX11, rfl, by decide, uX11, (zw_t (i := 1089) (by decide +kernel) rfl), tyX11_ok, nmX11, rfl, by decide +kernel⟩
theorem flX11_179 : zFld RX11 179 11 12 := ⟨RX11, TX11, 40, rfl, by decide, uX11, (zw_t (i := 1090) (by decide +kernel) rfl)⟩
theorem fpX11_179 : zFldP RX11 179 11 12 .int := ⟨RX11, TX11, 40, tyX11, rfl, by decide, uX11, (zw_t (i := 1090) (by decide +kernel) rfl), tyX11_ok, nmX11, rfl, by decide +kernel⟩
theorem flX11_239 : zFld RX11 239 11 13 := ⟨RX11, TX11, 40, rfl, by decide, uX11, (zw_t (i := 1091) (by decide +kernel) rfl)⟩
theorem fpX11_239 : zFldP RX11 239 11 13 .int := ⟨RX11, TX11, 40, tyX11, rfl, by decide, uX11, (zw_t (i := 1091) (by decide +kernel) rfl), tyX11_ok, nmX11, rfl, by decide +kernel⟩
theorem flX11_191 : zFld RX11 191 11 14 := ⟨RX11, TX11, 40, rfl, by decide, uX11, (zw_t (i := 1092) (by decide +kernel) rfl)⟩
theorem fpX11_191 : zFldP RX11 191 11 14 .int := ⟨RX11, TX11, 40, tyX11, rfl, by decide, uX11, (zw_t (i := 1092) (by decide +kernel) rfl), tyX11_ok, nmX11, rfl, by decide +kernel⟩
theorem flX11_28 : zFld RX11 28 11 15 := ⟨RX11, TX11, 40, rfl, by decide, uX11, (zw_t (i := 1093) (by decide +kernel) rfl)⟩
theorem flX11_31 : zFld RX11 31 11 16 := ⟨RX11, TX11, 40, rfl, by decide, uX11, (zw_t (i := 1094) (by decide +kernel) rfl)⟩
theorem flX11_36 : zFld RX11 36 11 17 := ⟨RX11, TX11, 40, rfl, by decide, uX11, (zw_t (i := 1095) (by decide +kernel) rfl)⟩
theorem flX11_39 : zFld RX11 39 11 18 := ⟨RX11, TX11, 40, rfl, by decide, uX11, (zw_t (i := 1096) (by decide +kernel) rfl)⟩
theorem flX11_42 : zFld RX11 42 11 19 := ⟨RX11, TX11, 40, rfl, by decide, uX11, (zw_t (i := 1097) (by decide +kernel) rfl)⟩
theorem flX11_313 : zFld RX11 313 11 20 := ⟨RX11, TX11, 40, rfl, by decide, uX11, (zw_t (i := 1098) (by decide +kernel) rfl)⟩
theorem fpX11_313 : zFldP RX11 313 11 20 .int := ⟨RX11, TX11, 40, tyX11, rfl, by decide, uX11, (zw_t (i := 1098) (by decide +kernel) rfl), tyX11_ok, nmX11, rfl, by decide +kernel⟩
theorem flX11_316 : zFld RX11 316 11 21 := ⟨RX11, TX11, 40, rfl, by decide, uX11, (zw_t (i := 1099) (by decide +kernel) rfl)⟩
theorem fpX11_316 : zFldP RX11 316 11 21 .int := ⟨RX11, TX11, 40, tyX11, rfl, by decide, uX11, (zw_t (i := 1099) (by decide +kernel) rfl), tyX11_ok, nmX11, rfl, by decide +kernel⟩
theorem flX11_319 : zFld RX11 319 11 22 := ⟨RX11, TX11, 40, rfl, by decide, uX11, (zw_t (i := 1100) (by decide +kernel) rfl)⟩
theorem fpX11_319 : zFldP RX11 319 11 22 .int := ⟨RX11, TX11, 40, tyX11, rfl, by decide, uX11, (zw_t (i := 1100) (by decide +kernel) rfl), tyX11_ok, nmX11, rfl, by decide +kernel⟩
theorem flX11_337 : zFld RX11 337 11 23 := ⟨RX11, TX11, 40, rfl, by decide, uX11, (zw_t (i := 1101) (by decide +kernel) rfl)⟩
theorem fpX11_337 : zFldP RX11 337 11 23 .int := ⟨RX11, TX11, 40, tyX11, rfl, by decide, uX11, (zw_t (i := 1101) (by decide +kernel) rfl), tyX11_ok, nmX11, rfl, by decide +kernel⟩
theorem flX11_346 : zFld RX11 346 11 24 := ⟨RX11, TX11, 40, rfl, by decide, uX11, (zw_t (i := 1102) (by decide +kernel) rfl)⟩
theorem fpX11_346 : zFldP RX11 346 11 24 .int := ⟨RX11, TX11, 40, tyX11, rfl, by decide, uX11, (zw_t (i := 1102) (by decide +kernel) rfl), tyX11_ok, nmX11, rfl, by decide +kernel⟩
theorem flX11_349 : zFld RX11 349 11 25 := ⟨RX11, TX11, 40, rfl, by decide, uX11, (zw_t (i := 1103) (by decide +kernel) rfl)⟩
theorem fpX11_349 : zFldP RX11 349 11 25 .int := ⟨RX11, TX11, 40, tyX11, rfl, by decide, uX11, (zw_t (i := 1103) (by decide +kernel) rfl), tyX11_ok, nmX11, rfl, by decide +kernel⟩
theorem flX11_45 : zFld RX11 45 11 26 := ⟨RX11, TX11, 40, rfl, by decide, uX11, (zw_t (i := 1104) (by decide +kernel) rfl)⟩
theorem flX11_361 : zFld RX11 361 11 27 := ⟨RX11, TX11, 40, rfl, by decide, uX11, (zw_t (i := 1105) (by decide +kernel) rfl)⟩
theorem fpX11_361 : zFldP RX11 361 11 27 .int := ⟨RX11, TX11, 40, tyX11, rfl, by decide, uX11, (zw_t (i := 1105) (by decide +kernel) rfl), tyX11_ok, nmX11, rfl, by decide +kernel⟩
theorem flX11_48 : zFld RX11 48 11 28 := ⟨RX11, TX11, 40, rfl, by decide, uX11, (zw_t (i := 1106) (by decide +kernel) rfl)⟩
theorem flX11_51 : zFld RX11 51 11 29 := ⟨RX11, TX11, 40, rfl, by decide, uX11, (zw_t (i := 1107) (by decide +kernel) rfl)⟩
theorem flX11_54 : zFld RX11 54 11 30 := ⟨RX11, TX11, 40, rfl, by decide, uX11, (zw_t (i := 1108) (by decide +kernel) rfl)⟩
theorem flX11_58 : zFld RX11 58 11 31 := ⟨RX11, TX11, 40, rfl, by decide, uX11, (zw_t (i := 1109) (by decide +kernel) rfl)⟩
theorem flX11_61 : zFld RX11 61 11 32 := ⟨RX11, TX11, 40, rfl, by decide, uX11, (zw_t (i := 1110) (by decide +kernel) rfl)⟩
theorem flX11_64 : zFld RX11 64 11 33 := ⟨RX11, TX11, 40, rfl, by decide, uX11, (zw_t (i := 1111) (by decide +kernel) rfl)⟩
theorem flX11_67 : zFld RX11 67 11 34 := ⟨RX11, TX11, 40, rfl, by decide, uX11, (zw_t (i := 1112) (by decide +kernel) rfl)⟩
theorem flX11_399 : zFld RX11 399 11 35 := ⟨RX11, TX11, 40, rfl, by decide, uX11, (zw_t (i := 1113) (by decide +kernel) rfl)⟩
theorem fpX11_399 : zFldP RX11 399 11 35 .int := ⟨RX11, TX11, 40, tyX11, rfl, by decide, uX11, (zw_t (i := 1113) (by decide +kernel) rfl), tyX11_ok, nmX11, rfl, by decide +kernel⟩
theorem flX11_417 : zFld RX11 417 11 36 := ⟨RX11, TX11, 40, rfl, by decide, uX11, (zw_t (i := 1114) (by decide +kernel) rfl)⟩
theorem fpX11_417 : zFldP RX11 417 11 36 .int := ⟨RX11, TX11, 40, tyX11, rfl, by decide, uX11, (zw_t (i := 1114) (by decide +kernel) rfl), tyX11_ok, nmX11, rfl, by decide +kernel⟩
theorem flX11_420 : zFld RX11 420 11 37 := ⟨RX11, TX11, 40, rfl, by decide, uX11, (zw_t (i := 1115) (by decide +kernel) rfl)⟩
theorem fpX11_420 : zFldP RX11 420 11 37 .int := ⟨RX11, TX11, 40, tyX11, rfl, by decide, uX11, (zw_t (i := 1115) (by decide +kernel) rfl), tyX11_ok, nmX11, rfl, by decide +kernel⟩
theorem flX11_409 : zFld RX11 409 11 38 := ⟨RX11, TX11, 40, rfl, by decide, uX11, (zw_t (i := 1116) (by decide +kernel) rfl)⟩
theorem fpX11_409 : zFldP RX11 409 11 38 .int := ⟨RX11, TX11, 40, tyX11, rfl, by decide, uX11, (zw_t (i := 1116) (by decide +kernel) rfl), tyX11_ok, nmX11, rfl, by decide +kernel⟩
theorem flX11_402 : zFld RX11 402 11 39 := ⟨RX11, TX11, 40, rfl, by decide, uX11, (zw_t (i := 1117) (by decide +kernel) rfl)⟩
theorem fpX11_402 : zFldP RX11 402 11 39 .boolean := ⟨RX11, TX11, 40, tyX11, rfl, by decide, uX11, (zw_t (i := 1117) (by decide +kernel) rfl), tyX11_ok, nmX11, rfl, by decide +kernel⟩
theorem mlL_17 : Cond.methodLink RL 17 yX11_lamp ∈ zw := (zw_t (i := 1200) (by decide +kernel) rfl)
theorem cwX11_78 : Cond.constantLong RX11 78 (5) ∈ zw := (zw_t (i := 1204) (by decide +kernel) rfl)
theorem mlX11_70 : Cond.methodLink RX11 70 yX11_isIn ∈ zw := (zw_t (i := 1205) (by decide +kernel) rfl)
theorem mlX11_80 : Cond.methodLink RX11 80 yX11_isTold ∈ zw := (zw_t (i := 1208) (by decide +kernel) rfl)
theorem cwX11_74 : Cond.constantLong RX11 74 (40) ∈ zw := (zw_t (i := 1211) (by decide +kernel) rfl)
theorem cwX11_76 : Cond.constantLong RX11 76 (9) ∈ zw := (zw_t (i := 1212) (by decide +kernel) rfl)
theorem mlL_22 : Cond.methodLink RL 22 yX11_lampOf ∈ zw := (zw_t (i := 1213) (by decide +kernel) rfl)
theorem mlX11_84 : Cond.methodLink RX11 84 yX11_isLamp ∈ zw := (zw_t (i := 1217) (by decide +kernel) rfl)
theorem mlX11_88 : Cond.methodLink RX11 88 yX11_of ∈ zw := (zw_t (i := 1221) (by decide +kernel) rfl)
theorem mlX11_92 : Cond.methodLink RX11 92 yX11_goalOf ∈ zw := (zw_t (i := 1225) (by decide +kernel) rfl)
theorem mlX11_117 : Cond.methodLink RX11 117 yX11_isUnder ∈ zw := (zw_t (i := 1229) (by decide +kernel) rfl)
theorem mlX11_120 : Cond.methodLink RX11 120 yX11_holds ∈ zw := (zw_t (i := 1232) (by decide +kernel) rfl)
theorem mlX11_146 : Cond.methodLink RX11 146 yX11_fact ∈ zw := (zw_t (i := 1236) (by decide +kernel) rfl)
theorem mlX11_125 : Cond.methodLink RX11 125 yX11_seen ∈ zw := (zw_t (i := 1240) (by decide +kernel) rfl)
theorem mlX11_109 : Cond.methodLink RX11 109 yX11_seenAt ∈ zw := (zw_t (i := 1244) (by decide +kernel) rfl)
theorem mlX11_149 : Cond.methodLink RX11 149 yX11_joined ∈ zw := (zw_t (i := 1248) (by decide +kernel) rfl)
theorem mlX11_122 : Cond.methodLink RX11 122 yX11_danceAt ∈ zw := (zw_t (i := 1251) (by decide +kernel) rfl)
theorem mlX11_113 : Cond.methodLink RX11 113 yX11_within ∈ zw := (zw_t (i := 1255) (by decide +kernel) rfl)
theorem mlX11_96 : Cond.methodLink RX11 96 yX11_isOver ∈ zw := (zw_t (i := 1258) (by decide +kernel) rfl)
theorem mlX11_100 : Cond.methodLink RX11 100 yX11_aimBehind ∈ zw := (zw_t (i := 1262) (by decide +kernel) rfl)
theorem mlX11_128 : Cond.methodLink RX11 128 yX11_goesBy ∈ zw := (zw_t (i := 1266) (by decide +kernel) rfl)
theorem mlL_27 : Cond.methodLink RL 27 yX11_change ∈ zw := (zw_t (i := 1270) (by decide +kernel) rfl)
theorem mlX11_103 : Cond.methodLink RX11 103 yX11_becomes ∈ zw := (zw_t (i := 1274) (by decide +kernel) rfl)
theorem mlL_31 : Cond.methodLink RL 31 yX11_remake ∈ zw := (zw_t (i := 1278) (by decide +kernel) rfl)
theorem mlL_36 : Cond.methodLink RL 36 yX11_dance ∈ zw := (zw_t (i := 1282) (by decide +kernel) rfl)
theorem mlL_40 : Cond.methodLink RL 40 yX11_danceOf ∈ zw := (zw_t (i := 1286) (by decide +kernel) rfl)
theorem mlX11_106 : Cond.methodLink RX11 106 yX11_isBeat ∈ zw := (zw_t (i := 1290) (by decide +kernel) rfl)
theorem mlL_44 : Cond.methodLink RL 44 yX11_steps ∈ zw := (zw_t (i := 1294) (by decide +kernel) rfl)
theorem mlL_49 : Cond.methodLink RL 49 yX11_anew ∈ zw := (zw_t (i := 1298) (by decide +kernel) rfl)
theorem mlL_53 : Cond.methodLink RL 53 yX11_state ∈ zw := (zw_t (i := 1302) (by decide +kernel) rfl)
theorem mlL_60 : Cond.methodLink RL 60 yX11_feed ∈ zw := (zw_t (i := 1306) (by decide +kernel) rfl)
theorem cwX11_153 : Cond.constantLong RX11 153 (8) ∈ zw := (zw_t (i := 1310) (by decide +kernel) rfl)
theorem cwX11_159 : Cond.constantLong RX11 159 (255) ∈ zw := (zw_t (i := 1311) (by decide +kernel) rfl)
theorem mlL_64 : Cond.methodLink RL 64 yX11_rules ∈ zw := (zw_t (i := 1312) (by decide +kernel) rfl)
theorem mlX11_277 : Cond.methodLink RX11 277 yX11_over ∈ zw := (zw_t (i := 1316) (by decide +kernel) rfl)
theorem mlX11_230 : Cond.methodLink RX11 230 yX11_look ∈ zw := (zw_t (i := 1319) (by decide +kernel) rfl)
theorem mlX11_170 : Cond.methodLink RX11 170 yX11_isLetter ∈ zw := (zw_t (i := 1323) (by decide +kernel) rfl)
theorem mlX11_173 : Cond.methodLink RX11 173 yX11_isDigit ∈ zw := (zw_t (i := 1327) (by decide +kernel) rfl)
theorem mlX11_281 : Cond.methodLink RX11 281 yX11_takesRule ∈ zw := (zw_t (i := 1331) (by decide +kernel) rfl)
theorem mlX11_269 : Cond.methodLink RX11 269 yX11_kindHere ∈ zw := (zw_t (i := 1335) (by decide +kernel) rfl)
theorem mlX11_196 : Cond.methodLink RX11 196 yX11_isName ∈ zw := (zw_t (i := 1340) (by decide +kernel) rfl)
theorem mlX11_182 : Cond.methodLink RX11 182 yJ0_length_8abf5 ∈ zw := (zw_t (i := 1344) (by decide +kernel) rfl)
theorem mlX11_187 : Cond.methodLink RX11 187 yJ0_charAt_5068e ∈ zw := (zw_t (i := 1345) (by decide +kernel) rfl)
theorem mlX11_223 : Cond.methodLink RX11 223 yX11_wrong ∈ zw := (zw_t (i := 1351) (by decide +kernel) rfl)
theorem mlX11_242 : Cond.methodLink RX11 242 yX11_takesCondition ∈ zw := (zw_t (i := 1356) (by decide +kernel) rfl)
theorem mlX11_258 : Cond.methodLink RX11 258 yX11_takesAll ∈ zw := (zw_t (i := 1360) (by decide +kernel) rfl)
theorem mlX11_253 : Cond.methodLink RX11 253 yX11_takesOne ∈ zw := (zw_t (i := 1364) (by decide +kernel) rfl)
theorem mlX11_236 : Cond.methodLink RX11 236 yX11_isSign ∈ zw := (zw_t (i := 1369) (by decide +kernel) rfl)
theorem mlX11_247 : Cond.methodLink RX11 247 yX11_takesOpen ∈ zw := (zw_t (i := 1373) (by decide +kernel) rfl)
theorem mlX11_250 : Cond.methodLink RX11 250 yX11_takesTest ∈ zw := (zw_t (i := 1377) (by decide +kernel) rfl)
theorem mlX11_233 : Cond.methodLink RX11 233 yX11_takesValue ∈ zw := (zw_t (i := 1381) (by decide +kernel) rfl)
theorem mlX11_220 : Cond.methodLink RX11 220 yX11_factHere ∈ zw := (zw_t (i := 1385) (by decide +kernel) rfl)
theorem mlX11_226 : Cond.methodLink RX11 226 yX11_lays ∈ zw := (zw_t (i := 1394) (by decide +kernel) rfl)
theorem mlX11_274 : Cond.methodLink RX11 274 yX11_takesDo ∈ zw := (zw_t (i := 1400) (by decide +kernel) rfl)
theorem mlL_68 : Cond.methodLink RL 68 yX11_beat ∈ zw := (zw_t (i := 1407) (by decide +kernel) rfl)
theorem mlX11_284 : Cond.methodLink RX11 284 yX11_goes ∈ zw := (zw_t (i := 1411) (by decide +kernel) rfl)
theorem mlX11_143 : Cond.methodLink RX11 143 yX11_worthOfAll ∈ zw := (zw_t (i := 1415) (by decide +kernel) rfl)
theorem mlX11_140 : Cond.methodLink RX11 140 yX11_worth ∈ zw := (zw_t (i := 1419) (by decide +kernel) rfl)
theorem mlX11_137 : Cond.methodLink RX11 137 yX11_sight ∈ zw := (zw_t (i := 1423) (by decide +kernel) rfl)
theorem mlX11_134 : Cond.methodLink RX11 134 yX11_sightBy ∈ zw := (zw_t (i := 1427) (by decide +kernel) rfl)
theorem mlX11_131 : Cond.methodLink RX11 131 yX11_far ∈ zw := (zw_t (i := 1430) (by decide +kernel) rfl)
theorem mlL_72 : Cond.methodLink RL 72 yX11_in ∈ zw := (zw_t (i := 1433) (by decide +kernel) rfl)
theorem cwX11_287 : Cond.constantLong RX11 287 (2) ∈ zw := (zw_t (i := 1437) (by decide +kernel) rfl)
theorem mlX11_289 : Cond.methodLink RX11 289 yX11_setOf ∈ zw := (zw_t (i := 1438) (by decide +kernel) rfl)
theorem mlL_76 : Cond.methodLink RL 76 yX11_shows ∈ zw := (zw_t (i := 1442) (by decide +kernel) rfl)
theorem mlX11_299 : Cond.methodLink RX11 299 yX11_showsIt ∈ zw := (zw_t (i := 1446) (by decide +kernel) rfl)
theorem mlX11_292 : Cond.methodLink RX11 292 yX11_saves ∈ zw := (zw_t (i := 1450) (by decide +kernel) rfl)
theorem mlX11_296 : Cond.methodLink RX11 296 yX11_putsBack ∈ zw := (zw_t (i := 1454) (by decide +kernel) rfl)
theorem mlL_80 : Cond.methodLink RL 80 yX11_on ∈ zw := (zw_t (i := 1458) (by decide +kernel) rfl)
theorem cwX11_302 : Cond.constantLong RX11 302 (16) ∈ zw := (zw_t (i := 1462) (by decide +kernel) rfl)
theorem mlL_84 : Cond.methodLink RL 84 yX11_lost ∈ zw := (zw_t (i := 1463) (by decide +kernel) rfl)
theorem mlX11_304 : Cond.methodLink RX11 304 yX11_lostAt ∈ zw := (zw_t (i := 1467) (by decide +kernel) rfl)
theorem mlL_88 : Cond.methodLink RL 88 yX11_crosses ∈ zw := (zw_t (i := 1471) (by decide +kernel) rfl)
theorem mlL_92 : Cond.methodLink RL 92 yX11_sized ∈ zw := (zw_t (i := 1475) (by decide +kernel) rfl)
theorem mlX11_307 : Cond.methodLink RX11 307 yX11_bestOf ∈ zw := (zw_t (i := 1479) (by decide +kernel) rfl)
theorem mlL_96 : Cond.methodLink RL 96 yX11_aimed ∈ zw := (zw_t (i := 1483) (by decide +kernel) rfl)
theorem mlL_100 : Cond.methodLink RL 100 yX11_stepFor ∈ zw := (zw_t (i := 1487) (by decide +kernel) rfl)
theorem mlL_104 : Cond.methodLink RL 104 yX11_who ∈ zw := (zw_t (i := 1491) (by decide +kernel) rfl)
theorem mlX11_310 : Cond.methodLink RX11 310 yX11_ones ∈ zw := (zw_t (i := 1495) (by decide +kernel) rfl)
theorem mlL_108 : Cond.methodLink RL 108 yX11_best ∈ zw := (zw_t (i := 1498) (by decide +kernel) rfl)
theorem cwX11_326 : Cond.constantLong RX11 326 (4) ∈ zw := (zw_t (i := 1502) (by decide +kernel) rfl)
theorem mlX11_328 : Cond.methodLink RX11 328 yX11_findBest ∈ zw := (zw_t (i := 1503) (by decide +kernel) rfl)
theorem mlX11_322 : Cond.methodLink RX11 322 yX11_plans ∈ zw := (zw_t (i := 1507) (by decide +kernel) rfl)
theorem mlL_112 : Cond.methodLink RL 112 yX11_ith ∈ zw := (zw_t (i := 1511) (by decide +kernel) rfl)
theorem cwX11_332 : Cond.constantLong RX11 332 (3) ∈ zw := (zw_t (i := 1515) (by decide +kernel) rfl)
theorem mlL_116 : Cond.methodLink RL 116 yX11_ways ∈ zw := (zw_t (i := 1516) (by decide +kernel) rfl)
theorem mlL_120 : Cond.methodLink RL 120 yX11_game ∈ zw := (zw_t (i := 1520) (by decide +kernel) rfl)
theorem mlX11_334 : Cond.methodLink RX11 334 yX11_valueOf ∈ zw := (zw_t (i := 1524) (by decide +kernel) rfl)
theorem mlL_124 : Cond.methodLink RL 124 yX11_play ∈ zw := (zw_t (i := 1528) (by decide +kernel) rfl)
theorem mlL_128 : Cond.methodLink RL 128 yX11_report ∈ zw := (zw_t (i := 1532) (by decide +kernel) rfl)
theorem cwX11_340 : Cond.constantLong RX11 340 (15) ∈ zw := (zw_t (i := 1536) (by decide +kernel) rfl)
theorem mlL_132 : Cond.methodLink RL 132 yX11_forget ∈ zw := (zw_t (i := 1537) (by decide +kernel) rfl)
theorem mlL_136 : Cond.methodLink RL 136 yX11_span ∈ zw := (zw_t (i := 1541) (by decide +kernel) rfl)
theorem mlX11_352 : Cond.methodLink RX11 352 yX11_fitsBut ∈ zw := (zw_t (i := 1545) (by decide +kernel) rfl)
theorem mlX11_342 : Cond.methodLink RX11 342 yX11_doesFit ∈ zw := (zw_t (i := 1549) (by decide +kernel) rfl)
theorem mlL_140 : Cond.methodLink RL 140 yX11_liar ∈ zw := (zw_t (i := 1553) (by decide +kernel) rfl)
theorem mlL_144 : Cond.methodLink RL 144 yX11_seed ∈ zw := (zw_t (i := 1557) (by decide +kernel) rfl)
theorem mlL_148 : Cond.methodLink RL 148 yX11_lot ∈ zw := (zw_t (i := 1561) (by decide +kernel) rfl)
theorem mlX11_356 : Cond.methodLink RX11 356 yX11_slips ∈ zw := (zw_t (i := 1565) (by decide +kernel) rfl)
theorem cwX11_355 : Cond.constant RX11 355 (1103515245) ∈ zw := (zw_t (i := 1569) (by decide +kernel) rfl)
theorem mlL_152 : Cond.methodLink RL 152 yX11_often ∈ zw := (zw_t (i := 1570) (by decide +kernel) rfl)
theorem cwX11_359 : Cond.constantLong RX11 359 (999) ∈ zw := (zw_t (i := 1574) (by decide +kernel) rfl)
theorem mlL_156 : Cond.methodLink RL 156 yX11_prove ∈ zw := (zw_t (i := 1575) (by decide +kernel) rfl)
theorem mlL_160 : Cond.methodLink RL 160 yX11_row ∈ zw := (zw_t (i := 1579) (by decide +kernel) rfl)
theorem mlX11_364 : Cond.methodLink RX11 364 yX11_isRow ∈ zw := (zw_t (i := 1583) (by decide +kernel) rfl)
theorem mlL_164 : Cond.methodLink RL 164 yX11_alterRow ∈ zw := (zw_t (i := 1587) (by decide +kernel) rfl)
theorem mlL_168 : Cond.methodLink RL 168 yX11_judge ∈ zw := (zw_t (i := 1591) (by decide +kernel) rfl)
theorem mlX11_367 : Cond.methodLink RX11 367 yX11_isAct ∈ zw := (zw_t (i := 1595) (by decide +kernel) rfl)
theorem mlL_172 : Cond.methodLink RL 172 yX11_sheet ∈ zw := (zw_t (i := 1599) (by decide +kernel) rfl)
theorem mlX11_371 : Cond.methodLink RX11 371 yX11_isSheet ∈ zw := (zw_t (i := 1603) (by decide +kernel) rfl)
theorem cwX11_374 : Cond.constantLong RX11 374 (-1) ∈ zw := (zw_t (i := 1606) (by decide +kernel) rfl)
theorem mlL_176 : Cond.methodLink RL 176 yX11_write ∈ zw := (zw_t (i := 1607) (by decide +kernel) rfl)
theorem mlX11_376 : Cond.methodLink RX11 376 yX11_narrowed ∈ zw := (zw_t (i := 1611) (by decide +kernel) rfl)
theorem mlL_180 : Cond.methodLink RL 180 yX11_item ∈ zw := (zw_t (i := 1614) (by decide +kernel) rfl)
theorem mlL_184 : Cond.methodLink RL 184 yX11_goAll ∈ zw := (zw_t (i := 1618) (by decide +kernel) rfl)
theorem mlX11_382 : Cond.methodLink RX11 382 yX11_noActs ∈ zw := (zw_t (i := 1622) (by decide +kernel) rfl)
theorem cwX11_380 : Cond.constantLong RX11 380 (20) ∈ zw := (zw_t (i := 1626) (by decide +kernel) rfl)
theorem mlX11_385 : Cond.methodLink RX11 385 yX11_hasItem ∈ zw := (zw_t (i := 1627) (by decide +kernel) rfl)
theorem mlL_188 : Cond.methodLink RL 188 yX11_wouldBe ∈ zw := (zw_t (i := 1631) (by decide +kernel) rfl)
theorem mlX11_389 : Cond.methodLink RX11 389 yX11_worthOfItems ∈ zw := (zw_t (i := 1635) (by decide +kernel) rfl)
theorem mlL_192 : Cond.methodLink RL 192 yX11_shelf ∈ zw := (zw_t (i := 1639) (by decide +kernel) rfl)
theorem mlL_196 : Cond.methodLink RL 196 yX11_taken ∈ zw := (zw_t (i := 1643) (by decide +kernel) rfl)
theorem cwX11_392 : Cond.constantLong RX11 392 (10) ∈ zw := (zw_t (i := 1647) (by decide +kernel) rfl)
theorem cwX11_394 : Cond.constantLong RX11 394 (14) ∈ zw := (zw_t (i := 1648) (by decide +kernel) rfl)
theorem mlX11_396 : Cond.methodLink RX11 396 yX11_heldBy ∈ zw := (zw_t (i := 1649) (by decide +kernel) rfl)
theorem mlL_200 : Cond.methodLink RL 200 yX11_act ∈ zw := (zw_t (i := 1653) (by decide +kernel) rfl)
theorem mlX11_411 : Cond.methodLink RX11 411 yX11_aims ∈ zw := (zw_t (i := 1657) (by decide +kernel) rfl)
theorem mlX11_406 : Cond.methodLink RX11 406 yX11_begins ∈ zw := (zw_t (i := 1661) (by decide +kernel) rfl)
theorem mlX11_414 : Cond.methodLink RX11 414 yX11_above ∈ zw := (zw_t (i := 1665) (by decide +kernel) rfl)
theorem mlX11_422 : Cond.methodLink RX11 422 yX11_swings ∈ zw := (zw_t (i := 1668) (by decide +kernel) rfl)
theorem mlX11_425 : Cond.methodLink RX11 425 yX11_dims ∈ zw := (zw_t (i := 1672) (by decide +kernel) rfl)
theorem mlX11_428 : Cond.methodLink RX11 428 yX11_follows ∈ zw := (zw_t (i := 1676) (by decide +kernel) rfl)
theorem mlL_204 : Cond.methodLink RL 204 yX11_trace ∈ zw := (zw_t (i := 1680) (by decide +kernel) rfl)
theorem mlL_208 : Cond.methodLink RL 208 yX11_many ∈ zw := (zw_t (i := 1684) (by decide +kernel) rfl)
theorem mlL_212 : Cond.methodLink RL 212 yX11_keep ∈ zw := (zw_t (i := 1688) (by decide +kernel) rfl)
theorem mlL_216 : Cond.methodLink RL 216 yX11_again ∈ zw := (zw_t (i := 1692) (by decide +kernel) rfl)
theorem cwL_54 : Cond.constantLong RL 54 (4294967295) ∈ zw := (zw_t (i := 1696) (by decide +kernel) rfl)
