theorem mtX0_init : mtab[0]? = some iX0_init := rfl
theorem mtX0_codeOf : mtab[1]? = some iX0_codeOf := rfl
theorem mtX0_wordOf : mtab[2]? = some iX0_wordOf := rfl
theorem mtX0_weightOf : mtab[3]? = some iX0_weightOf := rfl
theorem mtX0_codeCount : mtab[4]? = some iX0_codeCount := rfl
theorem mtX0_giveCode : mtab[5]? = some iX0_giveCode := rfl
theorem mtX0_giveWeight : mtab[6]? = some iX0_giveWeight := rfl
theorem mtX0_changePairs : mtab[7]? = some iX0_changePairs := rfl
theorem mtX0_hasCodesOf : mtab[8]? = some iX0_hasCodesOf := rfl
theorem mtX0_pairsApart : mtab[9]? = some iX0_pairsApart := rfl
theorem mtX0_spreadOfCodes : mtab[10]? = some iX0_spreadOfCodes := rfl
theorem mtX0_partner : mtab[11]? = some iX0_partner := rfl
theorem mtX0_likeliest : mtab[12]? = some iX0_likeliest := rfl
theorem mtX0_triplesApart : mtab[13]? = some iX0_triplesApart := rfl
theorem mtX1_init : mtab[14]? = some iX1_init := rfl
theorem mtX1_itemOf : mtab[15]? = some iX1_itemOf := rfl
theorem mtX1_hasNumber : mtab[16]? = some iX1_hasNumber := rfl
theorem mtX1_isTold : mtab[17]? = some iX1_isTold := rfl
theorem mtX1_takes : mtab[18]? = some iX1_takes := rfl
theorem mtX1_beginning : mtab[19]? = some iX1_beginning := rfl
theorem mtX1_multiple : mtab[20]? = some iX1_multiple := rfl
theorem mtX1_hasCheck : mtab[21]? = some iX1_hasCheck := rfl
theorem mtX1_allowsReuse : mtab[22]? = some iX1_allowsReuse := rfl
theorem mtX1_sizeLaid : mtab[23]? = some iX1_sizeLaid := rfl
theorem mtX1_sizeAheadOfCheck : mtab[24]? = some iX1_sizeAheadOfCheck := rfl
theorem mtX1_lay : mtab[25]? = some iX1_lay := rfl
theorem mtX1_checkOfAllButLast : mtab[26]? = some iX1_checkOfAllButLast := rfl
theorem mtX1_inCheck : mtab[27]? = some iX1_inCheck := rfl
theorem mtX2_init : mtab[28]? = some iX2_init := rfl
theorem mtX2_told : mtab[29]? = some iX2_told := rfl
theorem mtX2_readText : mtab[30]? = some iX2_readText := rfl
theorem mtX2_here : mtab[31]? = some iX2_here := rfl
theorem mtX2_readItem : mtab[32]? = some iX2_readItem := rfl
theorem mtX2_readNumber : mtab[33]? = some iX2_readNumber := rfl
theorem mtX2_isDigitHere : mtab[34]? = some iX2_isDigitHere := rfl
theorem mtX2_readDigit : mtab[35]? = some iX2_readDigit := rfl
theorem mtX3_init : mtab[36]? = some iX3_init := rfl
theorem mtX3_size : mtab[37]? = some iX3_size := rfl
theorem mtX3_groupAt : mtab[38]? = some iX3_groupAt := rfl
theorem mtX4_places : mtab[39]? = some iX4_places := rfl
theorem mtX4_apart : mtab[40]? = some iX4_apart := rfl
theorem mtX4_fitting : mtab[41]? = some iX4_fitting := rfl
theorem mtX4_sure : mtab[42]? = some iX4_sure := rfl
theorem mtX4_shareOf : mtab[43]? = some iX4_shareOf := rfl
theorem mtX4_shareInLeastTerms : mtab[44]? = some iX4_shareInLeastTerms := rfl
theorem mtX4_rowsThatFit : mtab[45]? = some iX4_rowsThatFit := rfl
theorem mtX4_power : mtab[46]? = some iX4_power := rfl
theorem mtX4_greatestDivisor : mtab[47]? = some iX4_greatestDivisor := rfl
theorem mtX4_meets : mtab[48]? = some iX4_meets := rfl
theorem mtX5_init : mtab[49]? = some iX5_init := rfl
theorem mtX5_kind : mtab[50]? = some iX5_kind := rfl
theorem mtX5_usable : mtab[51]? = some iX5_usable := rfl
theorem mtX5_telling : mtab[52]? = some iX5_telling := rfl
theorem mtX5_tellingOfPage : mtab[53]? = some iX5_tellingOfPage := rfl
theorem mtX5_marking : mtab[54]? = some iX5_marking := rfl
theorem mtX5_size : mtab[55]? = some iX5_size := rfl
theorem mtX5_groupAt : mtab[56]? = some iX5_groupAt := rfl
theorem mtX5_isBurnt : mtab[57]? = some iX5_isBurnt := rfl
theorem mtX5_hide : mtab[58]? = some iX5_hide := rfl
theorem mtX5_uncovered : mtab[59]? = some iX5_uncovered := rfl
theorem mtX5_addendOf : mtab[60]? = some iX5_addendOf := rfl
theorem mtX5_countMakers : mtab[61]? = some iX5_countMakers := rfl
theorem mtX5_leastFactor : mtab[62]? = some iX5_leastFactor := rfl
theorem mtX5_leastAddend : mtab[63]? = some iX5_leastAddend := rfl
theorem mtX5_isLike : mtab[64]? = some iX5_isLike := rfl
theorem mtX5_groupBehind : mtab[65]? = some iX5_groupBehind := rfl
theorem mtX6_init : mtab[66]? = some iX6_init := rfl
theorem mtX6_bagCount : mtab[67]? = some iX6_bagCount := rfl
theorem mtX6_changeNeed : mtab[68]? = some iX6_changeNeed := rfl
theorem mtX6_addBag : mtab[69]? = some iX6_addBag := rfl
theorem mtX6_dayOut : mtab[70]? = some iX6_dayOut := rfl
theorem mtX6_part : mtab[71]? = some iX6_part := rfl
theorem mtX6_wantedThrough : mtab[72]? = some iX6_wantedThrough := rfl
theorem mtX6_partOf : mtab[73]? = some iX6_partOf := rfl
theorem mtX7_init : mtab[74]? = some iX7_init := rfl
theorem mtX7_isNothing : mtab[75]? = some iX7_isNothing := rfl
theorem mtX7_empty : mtab[76]? = some iX7_empty := rfl
theorem mtX7_renew : mtab[77]? = some iX7_renew := rfl
theorem mtX7_isOfLaneOf : mtab[78]? = some iX7_isOfLaneOf := rfl
theorem mtX7_hasCell : mtab[79]? = some iX7_hasCell := rfl
theorem mtX7_hasCells : mtab[80]? = some iX7_hasCells := rfl
theorem mtX7_faultOfLane : mtab[81]? = some iX7_faultOfLane := rfl
theorem mtX7_faultOfCells : mtab[82]? = some iX7_faultOfCells := rfl
theorem mtX7_faultOfCell : mtab[83]? = some iX7_faultOfCell := rfl
theorem mtX7_at : mtab[84]? = some iX7_at := rfl
theorem mtX7_change : mtab[85]? = some iX7_change := rfl
theorem mtX7_cutToLane : mtab[86]? = some iX7_cutToLane := rfl
theorem mtX7_take : mtab[87]? = some iX7_take := rfl
theorem mtX7_hasOnlyGroups : mtab[88]? = some iX7_hasOnlyGroups := rfl
theorem mtX7_groups : mtab[89]? = some iX7_groups := rfl
theorem mtX8_init : mtab[90]? = some iX8_init := rfl
theorem mtX8_kind : mtab[91]? = some iX8_kind := rfl
theorem mtX8_usable : mtab[92]? = some iX8_usable := rfl
theorem mtX8_telling : mtab[93]? = some iX8_telling := rfl
theorem mtX9_init : mtab[94]? = some iX9_init := rfl
theorem mtX9_kind : mtab[95]? = some iX9_kind := rfl
theorem mtX9_usable : mtab[96]? = some iX9_usable := rfl
theorem mtX9_telling : mtab[97]? = some iX9_telling := rfl
theorem mtX9_marking : mtab[98]? = some iX9_marking := rfl
theorem mtX10_init : mtab[99]? = some iX10_init := rfl
theorem mtX10_leave : mtab[100]? = some iX10_leave := rfl
theorem mtX11_init : mtab[101]? = some iX11_init := rfl
theorem mtX11_code : mtab[102]? = some iX11_code := rfl
theorem mtX11_weight : mtab[103]? = some iX11_weight := rfl
theorem mtX11_drill : mtab[104]? = some iX11_drill := rfl
theorem mtX11_ofDrill : mtab[105]? = some iX11_ofDrill := rfl
theorem mtX11_page : mtab[106]? = some iX11_page := rfl
theorem mtX11_ofPage : mtab[107]? = some iX11_ofPage := rfl
theorem mtX11_letter : mtab[108]? = some iX11_letter := rfl
theorem mtX11_ofLetter : mtab[109]? = some iX11_ofLetter := rfl
theorem mtX11_read : mtab[110]? = some iX11_read := rfl
theorem mtX11_need : mtab[111]? = some iX11_need := rfl
theorem mtX11_bag : mtab[112]? = some iX11_bag := rfl
theorem mtX11_out : mtab[113]? = some iX11_out := rfl
theorem mtX11_last : mtab[114]? = some iX11_last := rfl
theorem mtX11_beside : mtab[115]? = some iX11_beside := rfl
theorem mtX11_spread : mtab[116]? = some iX11_spread := rfl
theorem mtX11_chance : mtab[117]? = some iX11_chance := rfl
theorem mtX11_best : mtab[118]? = some iX11_best := rfl
theorem mtX11_strip : mtab[119]? = some iX11_strip := rfl
theorem mtX11_with : mtab[120]? = some iX11_with := rfl
theorem mtX11_crib : mtab[121]? = some iX11_crib := rfl
theorem mtX11_open : mtab[122]? = some iX11_open := rfl
theorem mtX11_makers : mtab[123]? = some iX11_makers := rfl
theorem mtX11_like : mtab[124]? = some iX11_like := rfl
theorem mtX11_next : mtab[125]? = some iX11_next := rfl
theorem mtX11_sheet : mtab[126]? = some iX11_sheet := rfl
theorem mtX11_lose : mtab[127]? = some iX11_lose := rfl
theorem mtX11_put : mtab[128]? = some iX11_put := rfl
theorem mtX11_cell : mtab[129]? = some iX11_cell := rfl
theorem mtX11_copy : mtab[130]? = some iX11_copy := rfl
theorem mtX11_tell : mtab[131]? = some iX11_tell := rfl
theorem mtX11_mark : mtab[132]? = some iX11_mark := rfl
theorem mtX11_as : mtab[133]? = some iX11_as := rfl
theorem mtX11_trace : mtab[134]? = some iX11_trace := rfl
theorem mtX11_fault : mtab[135]? = some iX11_fault := rfl
theorem mtX11_many : mtab[136]? = some iX11_many := rfl
theorem mtX11_isBelow : mtab[137]? = some iX11_isBelow := rfl
theorem mtX11_asNumber : mtab[138]? = some iX11_asNumber := rfl
theorem mtX11_newPage : mtab[139]? = some iX11_newPage := rfl
theorem mtX11_sheetAt : mtab[140]? = some iX11_sheetAt := rfl
theorem mtX11_pageAt : mtab[141]? = some iX11_pageAt := rfl
theorem mtX11_letterAt : mtab[142]? = some iX11_letterAt := rfl
theorem mtX11_comeTo : mtab[143]? = some iX11_comeTo := rfl
theorem mtX11_isWrong : mtab[144]? = some iX11_isWrong := rfl
theorem mtX11_lettersUpTo : mtab[145]? = some iX11_lettersUpTo := rfl
theorem mtX12_init : mtab[146]? = some iX12_init := rfl
theorem mtX12_in : mtab[147]? = some iX12_in := rfl
theorem mtX12_lost : mtab[148]? = some iX12_lost := rfl
theorem mtX12_lesser : mtab[149]? = some iX12_lesser := rfl
theorem mtX12_rest : mtab[150]? = some iX12_rest := rfl
theorem mtX12_share : mtab[151]? = some iX12_share := rfl
theorem mtX12_refused : mtab[152]? = some iX12_refused := rfl
theorem mtX12_failed : mtab[153]? = some iX12_failed := rfl
theorem mtX12_failedLong : mtab[154]? = some iX12_failedLong := rfl
theorem mtX12_barred : mtab[155]? = some iX12_barred := rfl
theorem mtX12_noWord : mtab[156]? = some iX12_noWord := rfl
theorem mtX12_isGroup : mtab[157]? = some iX12_isGroup := rfl
theorem mtX12_code : mtab[158]? = some iX12_code := rfl
theorem mtX12_weight : mtab[159]? = some iX12_weight := rfl
theorem mtX12_letterOf : mtab[160]? = some iX12_letterOf := rfl
theorem mtX12_readsNumber : mtab[161]? = some iX12_readsNumber := rfl
theorem mtX12_readDrill : mtab[162]? = some iX12_readDrill := rfl
theorem mtX12_drill : mtab[163]? = some iX12_drill := rfl
theorem mtX12_ofDrill : mtab[164]? = some iX12_ofDrill := rfl
theorem mtX12_noPage : mtab[165]? = some iX12_noPage := rfl
theorem mtX12_noPost : mtab[166]? = some iX12_noPost := rfl
theorem mtX12_areGroups : mtab[167]? = some iX12_areGroups := rfl
theorem mtX12_page : mtab[168]? = some iX12_page := rfl
theorem mtX12_usable : mtab[169]? = some iX12_usable := rfl
theorem mtX12_ofPage : mtab[170]? = some iX12_ofPage := rfl
theorem mtX12_noLetter : mtab[171]? = some iX12_noLetter := rfl
theorem mtX12_isDay : mtab[172]? = some iX12_isDay := rfl
theorem mtX12_layGroup : mtab[173]? = some iX12_layGroup := rfl
theorem mtX12_checkOf : mtab[174]? = some iX12_checkOf := rfl
theorem mtX12_layWords : mtab[175]? = some iX12_layWords := rfl
theorem mtX12_areWords : mtab[176]? = some iX12_areWords := rfl
theorem mtX12_letter : mtab[177]? = some iX12_letter := rfl
theorem mtX12_ofLetter : mtab[178]? = some iX12_ofLetter := rfl
theorem mtX12_read : mtab[179]? = some iX12_read := rfl
theorem mtX12_need : mtab[180]? = some iX12_need := rfl
theorem mtX12_bag : mtab[181]? = some iX12_bag := rfl
theorem mtX12_comesOn : mtab[182]? = some iX12_comesOn := rfl
theorem mtX12_outDay : mtab[183]? = some iX12_outDay := rfl
theorem mtX12_out : mtab[184]? = some iX12_out := rfl
theorem mtX12_takesFor : mtab[185]? = some iX12_takesFor := rfl
theorem mtX12_last : mtab[186]? = some iX12_last := rfl
theorem mtX12_placesOf : mtab[187]? = some iX12_placesOf := rfl
theorem mtX12_differ : mtab[188]? = some iX12_differ := rfl
theorem mtX12_pairsBy : mtab[189]? = some iX12_pairsBy := rfl
theorem mtX12_fitsOf : mtab[190]? = some iX12_fitsOf := rfl
theorem mtX12_beside : mtab[191]? = some iX12_beside := rfl
theorem mtX12_spreadOf : mtab[192]? = some iX12_spreadOf := rfl
theorem mtX12_spread : mtab[193]? = some iX12_spread := rfl
theorem mtX12_power : mtab[194]? = some iX12_power := rfl
theorem mtX12_choose : mtab[195]? = some iX12_choose := rfl
theorem mtX12_rowsOf : mtab[196]? = some iX12_rowsOf := rfl
theorem mtX12_chance : mtab[197]? = some iX12_chance := rfl
theorem mtX12_best : mtab[198]? = some iX12_best := rfl
theorem mtX12_strip : mtab[199]? = some iX12_strip := rfl
theorem mtX12_with : mtab[200]? = some iX12_with := rfl
theorem mtX12_doesMeet : mtab[201]? = some iX12_doesMeet := rfl
theorem mtX12_crib : mtab[202]? = some iX12_crib := rfl
theorem mtX12_open : mtab[203]? = some iX12_open := rfl
theorem mtX12_didMake : mtab[204]? = some iX12_didMake := rfl
theorem mtX12_makers : mtab[205]? = some iX12_makers := rfl
theorem mtX12_like : mtab[206]? = some iX12_like := rfl
theorem mtX12_next : mtab[207]? = some iX12_next := rfl
theorem mtX12_noSheet : mtab[208]? = some iX12_noSheet := rfl
theorem mtX12_sheet : mtab[209]? = some iX12_sheet := rfl
theorem mtX12_lose : mtab[210]? = some iX12_lose := rfl
theorem mtX12_noCell : mtab[211]? = some iX12_noCell := rfl
theorem mtX12_put : mtab[212]? = some iX12_put := rfl
theorem mtX12_cell : mtab[213]? = some iX12_cell := rfl
theorem mtX12_isBeyond : mtab[214]? = some iX12_isBeyond := rfl
theorem mtX12_copy : mtab[215]? = some iX12_copy := rfl
theorem mtX12_traced : mtab[216]? = some iX12_traced := rfl
theorem mtX12_tell : mtab[217]? = some iX12_tell := rfl
theorem mtX12_mark : mtab[218]? = some iX12_mark := rfl
theorem mtX12_as : mtab[219]? = some iX12_as := rfl
theorem mtX12_trace : mtab[220]? = some iX12_trace := rfl
theorem mtX12_fault : mtab[221]? = some iX12_fault := rfl
theorem mtX12_many : mtab[222]? = some iX12_many := rfl
theorem mtJ9_floorMod_7cf53 : mtab[223]? = some iJ9_floorMod_7cf53 := rfl
theorem mtJ9_max_7cf53 : mtab[224]? = some iJ9_max_7cf53 := rfl
theorem mtJ9_min_7cf53 : mtab[225]? = some iJ9_min_7cf53 := rfl
theorem mtL_law : mtab[226]? = some iL_law := rfl
theorem moX0_init : MOK iX0_init := ⟨(gw 28 (by decide +kernel) rfl), (gw 2 (by decide +kernel) rfl), ⟨by decide +kernel, by decide +kernel⟩, by decide +kernel, by decide +kernel⟩
theorem moX0_codeOf : MOK iX0_codeOf := ⟨(gw 162 (by decide +kernel) rfl), (gw 2 (by decide +kernel) rfl), ⟨by decide +kernel, by decide +kernel⟩, by decide +kernel, by decide +kernel⟩
theorem moX0_wordOf : MOK iX0_wordOf := ⟨(gw 157 (by decide +kernel) rfl), (gw 2 (by decide +kernel) rfl), ⟨by decide +kernel, by decide +kernel⟩, by decide +kernel, by decide +kernel⟩
theorem moX0_weightOf : MOK iX0_weightOf := ⟨(gw 181 (by decide +kernel) rfl), (gw 2 (by decide +kernel) rfl), ⟨by decide +kernel, by decide +kernel⟩, by decide +kernel, by decide +kernel⟩
theorem moX0_codeCount : MOK iX0_codeCount := ⟨(gw 860 (by decide +kernel) rfl), (gw 2 (by decide +kernel) rfl), ⟨by decide +kernel, by decide +kernel⟩, by decide +kernel, by decide +kernel⟩
theorem moX0_giveCode : MOK iX0_giveCode := ⟨(gw 166 (by decide +kernel) rfl), (gw 2 (by decide +kernel) rfl), ⟨by decide +kernel, by decide +kernel⟩, by decide +kernel, by decide +kernel⟩
theorem moX0_giveWeight : MOK iX0_giveWeight := ⟨(gw 185 (by decide +kernel) rfl), (gw 2 (by decide +kernel) rfl), ⟨by decide +kernel, by decide +kernel⟩, by decide +kernel, by decide +kernel⟩
theorem moX0_changePairs : MOK iX0_changePairs := ⟨(gw 170 (by decide +kernel) rfl), (gw 2 (by decide +kernel) rfl), ⟨by decide +kernel, by decide +kernel⟩, by decide +kernel, by decide +kernel⟩
theorem moX0_hasCodesOf : MOK iX0_hasCodesOf := ⟨(gw 453 (by decide +kernel) rfl), (gw 2 (by decide +kernel) rfl), ⟨by decide +kernel, by decide +kernel⟩, by decide +kernel, by decide +kernel⟩
theorem moX0_pairsApart : MOK iX0_pairsApart := ⟨(gw 606 (by decide +kernel) rfl), (gw 2 (by decide +kernel) rfl), ⟨by decide +kernel, by decide +kernel⟩, by decide +kernel, by decide +kernel⟩
theorem moX0_spreadOfCodes : MOK iX0_spreadOfCodes := ⟨(gw 617 (by decide +kernel) rfl), (gw 2 (by decide +kernel) rfl), ⟨by decide +kernel, by decide +kernel⟩, by decide +kernel, by decide +kernel⟩
theorem moX0_partner : MOK iX0_partner := ⟨(gw 660 (by decide +kernel) rfl), (gw 2 (by decide +kernel) rfl), ⟨by decide +kernel, by decide +kernel⟩, by decide +kernel, by decide +kernel⟩
theorem moX0_likeliest : MOK iX0_likeliest := ⟨(gw 656 (by decide +kernel) rfl), (gw 2 (by decide +kernel) rfl), ⟨by decide +kernel, by decide +kernel⟩, by decide +kernel, by decide +kernel⟩
theorem moX0_triplesApart : MOK iX0_triplesApart := ⟨(gw 672 (by decide +kernel) rfl), (gw 2 (by decide +kernel) rfl), ⟨by decide +kernel, by decide +kernel⟩, by decide +kernel, by decide +kernel⟩
theorem moX1_init : MOK iX1_init := ⟨(gw 95 (by decide +kernel) rfl), (gw 5 (by decide +kernel) rfl), ⟨by decide +kernel, by decide +kernel⟩, by decide +kernel, by decide +kernel⟩
theorem moX1_itemOf : MOK iX1_itemOf := ⟨(gw 261 (by decide +kernel) rfl), (gw 5 (by decide +kernel) rfl), ⟨by decide +kernel, by decide +kernel⟩, by decide +kernel, by decide +kernel⟩
theorem moX1_hasNumber : MOK iX1_hasNumber := ⟨(gw 271 (by decide +kernel) rfl), (gw 5 (by decide +kernel) rfl), ⟨by decide +kernel, by decide +kernel⟩, by decide +kernel, by decide +kernel⟩
theorem moX1_isTold : MOK iX1_isTold := ⟨(gw 267 (by decide +kernel) rfl), (gw 5 (by decide +kernel) rfl), ⟨by decide +kernel, by decide +kernel⟩, by decide +kernel, by decide +kernel⟩
theorem moX1_takes : MOK iX1_takes := ⟨(gw 287 (by decide +kernel) rfl), (gw 5 (by decide +kernel) rfl), ⟨by decide +kernel, by decide +kernel⟩, by decide +kernel, by decide +kernel⟩
theorem moX1_beginning : MOK iX1_beginning := ⟨(gw 303 (by decide +kernel) rfl), (gw 5 (by decide +kernel) rfl), ⟨by decide +kernel, by decide +kernel⟩, by decide +kernel, by decide +kernel⟩
theorem moX1_multiple : MOK iX1_multiple := ⟨(gw 307 (by decide +kernel) rfl), (gw 5 (by decide +kernel) rfl), ⟨by decide +kernel, by decide +kernel⟩, by decide +kernel, by decide +kernel⟩
theorem moX1_hasCheck : MOK iX1_hasCheck := ⟨(gw 311 (by decide +kernel) rfl), (gw 5 (by decide +kernel) rfl), ⟨by decide +kernel, by decide +kernel⟩, by decide +kernel, by decide +kernel⟩
theorem moX1_allowsReuse : MOK iX1_allowsReuse := ⟨(gw 319 (by decide +kernel) rfl), (gw 5 (by decide +kernel) rfl), ⟨by decide +kernel, by decide +kernel⟩, by decide +kernel, by decide +kernel⟩
theorem moX1_sizeLaid : MOK iX1_sizeLaid := ⟨(gw 459 (by decide +kernel) rfl), (gw 5 (by decide +kernel) rfl), ⟨by decide +kernel, by decide +kernel⟩, by decide +kernel, by decide +kernel⟩
theorem moX1_sizeAheadOfCheck : MOK iX1_sizeAheadOfCheck := ⟨(gw 463 (by decide +kernel) rfl), (gw 5 (by decide +kernel) rfl), ⟨by decide +kernel, by decide +kernel⟩, by decide +kernel, by decide +kernel⟩
theorem moX1_lay : MOK iX1_lay := ⟨(gw 469 (by decide +kernel) rfl), (gw 5 (by decide +kernel) rfl), ⟨by decide +kernel, by decide +kernel⟩, by decide +kernel, by decide +kernel⟩
theorem moX1_checkOfAllButLast : MOK iX1_checkOfAllButLast := ⟨(gw 475 (by decide +kernel) rfl), (gw 5 (by decide +kernel) rfl), ⟨by decide +kernel, by decide +kernel⟩, by decide +kernel, by decide +kernel⟩
theorem moX1_inCheck : MOK iX1_inCheck := ⟨(gw 478 (by decide +kernel) rfl), (gw 5 (by decide +kernel) rfl), ⟨by decide +kernel, by decide +kernel⟩, by decide +kernel, by decide +kernel⟩
theorem moX2_init : MOK iX2_init := ⟨(gw 218 (by decide +kernel) rfl), (gw 9 (by decide +kernel) rfl), ⟨by decide +kernel, by decide +kernel⟩, by decide +kernel, by decide +kernel⟩
theorem moX2_told : MOK iX2_told := ⟨(gw 295 (by decide +kernel) rfl), (gw 9 (by decide +kernel) rfl), ⟨by decide +kernel, by decide +kernel⟩, by decide +kernel, by decide +kernel⟩
theorem moX2_readText : MOK iX2_readText := ⟨(gw 241 (by decide +kernel) rfl), (gw 9 (by decide +kernel) rfl), ⟨by decide +kernel, by decide +kernel⟩, by decide +kernel, by decide +kernel⟩
theorem moX2_here : MOK iX2_here := ⟨(gw 249 (by decide +kernel) rfl), (gw 9 (by decide +kernel) rfl), ⟨by decide +kernel, by decide +kernel⟩, by decide +kernel, by decide +kernel⟩
theorem moX2_readItem : MOK iX2_readItem := ⟨(gw 245 (by decide +kernel) rfl), (gw 9 (by decide +kernel) rfl), ⟨by decide +kernel, by decide +kernel⟩, by decide +kernel, by decide +kernel⟩
theorem moX2_readNumber : MOK iX2_readNumber := ⟨(gw 275 (by decide +kernel) rfl), (gw 9 (by decide +kernel) rfl), ⟨by decide +kernel, by decide +kernel⟩, by decide +kernel, by decide +kernel⟩
theorem moX2_isDigitHere : MOK iX2_isDigitHere := ⟨(gw 279 (by decide +kernel) rfl), (gw 9 (by decide +kernel) rfl), ⟨by decide +kernel, by decide +kernel⟩, by decide +kernel, by decide +kernel⟩
theorem moX2_readDigit : MOK iX2_readDigit := ⟨(gw 283 (by decide +kernel) rfl), (gw 9 (by decide +kernel) rfl), ⟨by decide +kernel, by decide +kernel⟩, by decide +kernel, by decide +kernel⟩
theorem moX3_init : MOK iX3_init := ⟨(gw 490 (by decide +kernel) rfl), (gw 13 (by decide +kernel) rfl), ⟨by decide +kernel, by decide +kernel⟩, by decide +kernel, by decide +kernel⟩
theorem moX3_size : MOK iX3_size := ⟨(gw 515 (by decide +kernel) rfl), (gw 13 (by decide +kernel) rfl), ⟨by decide +kernel, by decide +kernel⟩, by decide +kernel, by decide +kernel⟩
theorem moX3_groupAt : MOK iX3_groupAt := ⟨(gw 519 (by decide +kernel) rfl), (gw 13 (by decide +kernel) rfl), ⟨by decide +kernel, by decide +kernel⟩, by decide +kernel, by decide +kernel⟩
theorem moX4_places : MOK iX4_places := ⟨(gw 591 (by decide +kernel) rfl), (gw 14 (by decide +kernel) rfl), ⟨by decide +kernel, by decide +kernel⟩, by decide +kernel, by decide +kernel⟩
theorem moX4_apart : MOK iX4_apart := ⟨(gw 600 (by decide +kernel) rfl), (gw 14 (by decide +kernel) rfl), ⟨by decide +kernel, by decide +kernel⟩, by decide +kernel, by decide +kernel⟩
theorem moX4_fitting : MOK iX4_fitting := ⟨(gw 596 (by decide +kernel) rfl), (gw 14 (by decide +kernel) rfl), ⟨by decide +kernel, by decide +kernel⟩, by decide +kernel, by decide +kernel⟩
theorem moX4_sure : MOK iX4_sure := ⟨(gw 609 (by decide +kernel) rfl), (gw 14 (by decide +kernel) rfl), ⟨by decide +kernel, by decide +kernel⟩, by decide +kernel, by decide +kernel⟩
theorem moX4_shareOf : MOK iX4_shareOf := ⟨(gw 629 (by decide +kernel) rfl), (gw 14 (by decide +kernel) rfl), ⟨by decide +kernel, by decide +kernel⟩, by decide +kernel, by decide +kernel⟩
theorem moX4_shareInLeastTerms : MOK iX4_shareInLeastTerms := ⟨(gw 625 (by decide +kernel) rfl), (gw 14 (by decide +kernel) rfl), ⟨by decide +kernel, by decide +kernel⟩, by decide +kernel, by decide +kernel⟩
theorem moX4_rowsThatFit : MOK iX4_rowsThatFit := ⟨(gw 634 (by decide +kernel) rfl), (gw 14 (by decide +kernel) rfl), ⟨by decide +kernel, by decide +kernel⟩, by decide +kernel, by decide +kernel⟩
theorem moX4_power : MOK iX4_power := ⟨(gw 637 (by decide +kernel) rfl), (gw 14 (by decide +kernel) rfl), ⟨by decide +kernel, by decide +kernel⟩, by decide +kernel, by decide +kernel⟩
theorem moX4_greatestDivisor : MOK iX4_greatestDivisor := ⟨(gw 640 (by decide +kernel) rfl), (gw 14 (by decide +kernel) rfl), ⟨by decide +kernel, by decide +kernel⟩, by decide +kernel, by decide +kernel⟩
theorem moX4_meets : MOK iX4_meets := ⟨(gw 679 (by decide +kernel) rfl), (gw 14 (by decide +kernel) rfl), ⟨by decide +kernel, by decide +kernel⟩, by decide +kernel, by decide +kernel⟩
theorem moX5_init : MOK iX5_init := ⟨(gw 349 (by decide +kernel) rfl), (gw 10 (by decide +kernel) rfl), ⟨by decide +kernel, by decide +kernel⟩, by decide +kernel, by decide +kernel⟩
theorem moX5_kind : MOK iX5_kind := ⟨(gw 402 (by decide +kernel) rfl), (gw 10 (by decide +kernel) rfl), ⟨by decide +kernel, by decide +kernel⟩, by decide +kernel, by decide +kernel⟩
theorem moX5_usable : MOK iX5_usable := ⟨(gw 430 (by decide +kernel) rfl), (gw 10 (by decide +kernel) rfl), ⟨by decide +kernel, by decide +kernel⟩, by decide +kernel, by decide +kernel⟩
theorem moX5_telling : MOK iX5_telling := ⟨(gw 826 (by decide +kernel) rfl), (gw 10 (by decide +kernel) rfl), ⟨by decide +kernel, by decide +kernel⟩, by decide +kernel, by decide +kernel⟩
theorem moX5_tellingOfPage : MOK iX5_tellingOfPage := ⟨(gw 823 (by decide +kernel) rfl), (gw 10 (by decide +kernel) rfl), ⟨by decide +kernel, by decide +kernel⟩, by decide +kernel, by decide +kernel⟩
theorem moX5_marking : MOK iX5_marking := ⟨(gw 840 (by decide +kernel) rfl), (gw 10 (by decide +kernel) rfl), ⟨by decide +kernel, by decide +kernel⟩, by decide +kernel, by decide +kernel⟩
theorem moX5_size : MOK iX5_size := ⟨(gw 409 (by decide +kernel) rfl), (gw 10 (by decide +kernel) rfl), ⟨by decide +kernel, by decide +kernel⟩, by decide +kernel, by decide +kernel⟩
theorem moX5_groupAt : MOK iX5_groupAt := ⟨(gw 444 (by decide +kernel) rfl), (gw 10 (by decide +kernel) rfl), ⟨by decide +kernel, by decide +kernel⟩, by decide +kernel, by decide +kernel⟩
theorem moX5_isBurnt : MOK iX5_isBurnt := ⟨(gw 437 (by decide +kernel) rfl), (gw 10 (by decide +kernel) rfl), ⟨by decide +kernel, by decide +kernel⟩, by decide +kernel, by decide +kernel⟩
theorem moX5_hide : MOK iX5_hide := ⟨(gw 485 (by decide +kernel) rfl), (gw 10 (by decide +kernel) rfl), ⟨by decide +kernel, by decide +kernel⟩, by decide +kernel, by decide +kernel⟩
theorem moX5_uncovered : MOK iX5_uncovered := ⟨(gw 535 (by decide +kernel) rfl), (gw 10 (by decide +kernel) rfl), ⟨by decide +kernel, by decide +kernel⟩, by decide +kernel, by decide +kernel⟩
theorem moX5_addendOf : MOK iX5_addendOf := ⟨(gw 704 (by decide +kernel) rfl), (gw 10 (by decide +kernel) rfl), ⟨by decide +kernel, by decide +kernel⟩, by decide +kernel, by decide +kernel⟩
theorem moX5_countMakers : MOK iX5_countMakers := ⟨(gw 700 (by decide +kernel) rfl), (gw 10 (by decide +kernel) rfl), ⟨by decide +kernel, by decide +kernel⟩, by decide +kernel, by decide +kernel⟩
theorem moX5_leastFactor : MOK iX5_leastFactor := ⟨(gw 711 (by decide +kernel) rfl), (gw 10 (by decide +kernel) rfl), ⟨by decide +kernel, by decide +kernel⟩, by decide +kernel, by decide +kernel⟩
theorem moX5_leastAddend : MOK iX5_leastAddend := ⟨(gw 718 (by decide +kernel) rfl), (gw 10 (by decide +kernel) rfl), ⟨by decide +kernel, by decide +kernel⟩, by decide +kernel, by decide +kernel⟩
theorem moX5_isLike : MOK iX5_isLike := ⟨(gw 730 (by decide +kernel) rfl), (gw 10 (by decide +kernel) rfl), ⟨by decide +kernel, by decide +kernel⟩, by decide +kernel, by decide +kernel⟩
theorem moX5_groupBehind : MOK iX5_groupBehind := ⟨(gw 741 (by decide +kernel) rfl), (gw 10 (by decide +kernel) rfl), ⟨by decide +kernel, by decide +kernel⟩, by decide +kernel, by decide +kernel⟩
theorem moX6_init : MOK iX6_init := ⟨(gw 51 (by decide +kernel) rfl), (gw 3 (by decide +kernel) rfl), ⟨by decide +kernel, by decide +kernel⟩, by decide +kernel, by decide +kernel⟩
theorem moX6_bagCount : MOK iX6_bagCount := ⟨(gw 555 (by decide +kernel) rfl), (gw 3 (by decide +kernel) rfl), ⟨by decide +kernel, by decide +kernel⟩, by decide +kernel, by decide +kernel⟩
theorem moX6_changeNeed : MOK iX6_changeNeed := ⟨(gw 546 (by decide +kernel) rfl), (gw 3 (by decide +kernel) rfl), ⟨by decide +kernel, by decide +kernel⟩, by decide +kernel, by decide +kernel⟩
theorem moX6_addBag : MOK iX6_addBag := ⟨(gw 559 (by decide +kernel) rfl), (gw 3 (by decide +kernel) rfl), ⟨by decide +kernel, by decide +kernel⟩, by decide +kernel, by decide +kernel⟩
theorem moX6_dayOut : MOK iX6_dayOut := ⟨(gw 567 (by decide +kernel) rfl), (gw 3 (by decide +kernel) rfl), ⟨by decide +kernel, by decide +kernel⟩, by decide +kernel, by decide +kernel⟩
theorem moX6_part : MOK iX6_part := ⟨(gw 575 (by decide +kernel) rfl), (gw 3 (by decide +kernel) rfl), ⟨by decide +kernel, by decide +kernel⟩, by decide +kernel, by decide +kernel⟩
theorem moX6_wantedThrough : MOK iX6_wantedThrough := ⟨(gw 579 (by decide +kernel) rfl), (gw 3 (by decide +kernel) rfl), ⟨by decide +kernel, by decide +kernel⟩, by decide +kernel, by decide +kernel⟩
theorem moX6_partOf : MOK iX6_partOf := ⟨(gw 584 (by decide +kernel) rfl), (gw 3 (by decide +kernel) rfl), ⟨by decide +kernel, by decide +kernel⟩, by decide +kernel, by decide +kernel⟩
theorem moX7_init : MOK iX7_init := ⟨(gw 104 (by decide +kernel) rfl), (gw 6 (by decide +kernel) rfl), ⟨by decide +kernel, by decide +kernel⟩, by decide +kernel, by decide +kernel⟩
theorem moX7_isNothing : MOK iX7_isNothing := ⟨(gw 205 (by decide +kernel) rfl), (gw 6 (by decide +kernel) rfl), ⟨by decide +kernel, by decide +kernel⟩, by decide +kernel, by decide +kernel⟩
theorem moX7_empty : MOK iX7_empty := ⟨(gw 758 (by decide +kernel) rfl), (gw 6 (by decide +kernel) rfl), ⟨by decide +kernel, by decide +kernel⟩, by decide +kernel, by decide +kernel⟩
theorem moX7_renew : MOK iX7_renew := ⟨(gw 749 (by decide +kernel) rfl), (gw 6 (by decide +kernel) rfl), ⟨by decide +kernel, by decide +kernel⟩, by decide +kernel, by decide +kernel⟩
theorem moX7_isOfLaneOf : MOK iX7_isOfLaneOf := ⟨(gw 788 (by decide +kernel) rfl), (gw 6 (by decide +kernel) rfl), ⟨by decide +kernel, by decide +kernel⟩, by decide +kernel, by decide +kernel⟩
theorem moX7_hasCell : MOK iX7_hasCell := ⟨(gw 257 (by decide +kernel) rfl), (gw 6 (by decide +kernel) rfl), ⟨by decide +kernel, by decide +kernel⟩, by decide +kernel, by decide +kernel⟩
theorem moX7_hasCells : MOK iX7_hasCells := ⟨(gw 209 (by decide +kernel) rfl), (gw 6 (by decide +kernel) rfl), ⟨by decide +kernel, by decide +kernel⟩, by decide +kernel, by decide +kernel⟩
theorem moX7_faultOfLane : MOK iX7_faultOfLane := ⟨(gw 201 (by decide +kernel) rfl), (gw 6 (by decide +kernel) rfl), ⟨by decide +kernel, by decide +kernel⟩, by decide +kernel, by decide +kernel⟩
theorem moX7_faultOfCells : MOK iX7_faultOfCells := ⟨(gw 197 (by decide +kernel) rfl), (gw 6 (by decide +kernel) rfl), ⟨by decide +kernel, by decide +kernel⟩, by decide +kernel, by decide +kernel⟩
theorem moX7_faultOfCell : MOK iX7_faultOfCell := ⟨(gw 779 (by decide +kernel) rfl), (gw 6 (by decide +kernel) rfl), ⟨by decide +kernel, by decide +kernel⟩, by decide +kernel, by decide +kernel⟩
theorem moX7_at : MOK iX7_at := ⟨(gw 253 (by decide +kernel) rfl), (gw 6 (by decide +kernel) rfl), ⟨by decide +kernel, by decide +kernel⟩, by decide +kernel, by decide +kernel⟩
theorem moX7_change : MOK iX7_change := ⟨(gw 767 (by decide +kernel) rfl), (gw 6 (by decide +kernel) rfl), ⟨by decide +kernel, by decide +kernel⟩, by decide +kernel, by decide +kernel⟩
theorem moX7_cutToLane : MOK iX7_cutToLane := ⟨(gw 771 (by decide +kernel) rfl), (gw 6 (by decide +kernel) rfl), ⟨by decide +kernel, by decide +kernel⟩, by decide +kernel, by decide +kernel⟩
theorem moX7_take : MOK iX7_take := ⟨(gw 793 (by decide +kernel) rfl), (gw 6 (by decide +kernel) rfl), ⟨by decide +kernel, by decide +kernel⟩, by decide +kernel, by decide +kernel⟩
theorem moX7_hasOnlyGroups : MOK iX7_hasOnlyGroups := ⟨(gw 327 (by decide +kernel) rfl), (gw 6 (by decide +kernel) rfl), ⟨by decide +kernel, by decide +kernel⟩, by decide +kernel, by decide +kernel⟩
theorem moX7_groups : MOK iX7_groups := ⟨(gw 332 (by decide +kernel) rfl), (gw 6 (by decide +kernel) rfl), ⟨by decide +kernel, by decide +kernel⟩, by decide +kernel, by decide +kernel⟩
theorem moX8_init : MOK iX8_init := ⟨(gw 346 (by decide +kernel) rfl), (gw 11 (by decide +kernel) rfl), ⟨by decide +kernel, by decide +kernel⟩, by decide +kernel, by decide +kernel⟩
theorem moX8_kind : MOK iX8_kind := ⟨(gw 398 (by decide +kernel) rfl), (gw 11 (by decide +kernel) rfl), ⟨by decide +kernel, by decide +kernel⟩, by decide +kernel, by decide +kernel⟩
theorem moX8_usable : MOK iX8_usable := ⟨(gw 416 (by decide +kernel) rfl), (gw 11 (by decide +kernel) rfl), ⟨by decide +kernel, by decide +kernel⟩, by decide +kernel, by decide +kernel⟩
theorem moX8_telling : MOK iX8_telling := ⟨(gw 807 (by decide +kernel) rfl), (gw 11 (by decide +kernel) rfl), ⟨by decide +kernel, by decide +kernel⟩, by decide +kernel, by decide +kernel⟩
theorem moX9_init : MOK iX9_init := ⟨(gw 370 (by decide +kernel) rfl), (gw 12 (by decide +kernel) rfl), ⟨by decide +kernel, by decide +kernel⟩, by decide +kernel, by decide +kernel⟩
theorem moX9_kind : MOK iX9_kind := ⟨(gw 401 (by decide +kernel) rfl), (gw 12 (by decide +kernel) rfl), ⟨by decide +kernel, by decide +kernel⟩, by decide +kernel, by decide +kernel⟩
theorem moX9_usable : MOK iX9_usable := ⟨(gw 425 (by decide +kernel) rfl), (gw 12 (by decide +kernel) rfl), ⟨by decide +kernel, by decide +kernel⟩, by decide +kernel, by decide +kernel⟩
theorem moX9_telling : MOK iX9_telling := ⟨(gw 815 (by decide +kernel) rfl), (gw 12 (by decide +kernel) rfl), ⟨by decide +kernel, by decide +kernel⟩, by decide +kernel, by decide +kernel⟩
theorem moX9_marking : MOK iX9_marking := ⟨(gw 839 (by decide +kernel) rfl), (gw 12 (by decide +kernel) rfl), ⟨by decide +kernel, by decide +kernel⟩, by decide +kernel, by decide +kernel⟩
theorem moX10_init : MOK iX10_init := ⟨(gw 78 (by decide +kernel) rfl), (gw 4 (by decide +kernel) rfl), ⟨by decide +kernel, by decide +kernel⟩, by decide +kernel, by decide +kernel⟩
theorem moX10_leave : MOK iX10_leave := ⟨(gw 811 (by decide +kernel) rfl), (gw 4 (by decide +kernel) rfl), ⟨by decide +kernel, by decide +kernel⟩, by decide +kernel, by decide +kernel⟩
theorem moX11_init : MOK iX11_init := ⟨(gw 20 (by decide +kernel) rfl), (gw 1 (by decide +kernel) rfl), ⟨by decide +kernel, by decide +kernel⟩, by decide +kernel, by decide +kernel⟩
theorem moX11_code : MOK iX11_code := ⟨(gw 150 (by decide +kernel) rfl), (gw 1 (by decide +kernel) rfl), ⟨by decide +kernel, by decide +kernel⟩, by decide +kernel, by decide +kernel⟩
theorem moX11_weight : MOK iX11_weight := ⟨(gw 177 (by decide +kernel) rfl), (gw 1 (by decide +kernel) rfl), ⟨by decide +kernel, by decide +kernel⟩, by decide +kernel, by decide +kernel⟩
theorem moX11_drill : MOK iX11_drill := ⟨(gw 189 (by decide +kernel) rfl), (gw 1 (by decide +kernel) rfl), ⟨by decide +kernel, by decide +kernel⟩, by decide +kernel, by decide +kernel⟩
theorem moX11_ofDrill : MOK iX11_ofDrill := ⟨(gw 299 (by decide +kernel) rfl), (gw 1 (by decide +kernel) rfl), ⟨by decide +kernel, by decide +kernel⟩, by decide +kernel, by decide +kernel⟩
theorem moX11_page : MOK iX11_page := ⟨(gw 323 (by decide +kernel) rfl), (gw 1 (by decide +kernel) rfl), ⟨by decide +kernel, by decide +kernel⟩, by decide +kernel, by decide +kernel⟩
theorem moX11_ofPage : MOK iX11_ofPage := ⟨(gw 387 (by decide +kernel) rfl), (gw 1 (by decide +kernel) rfl), ⟨by decide +kernel, by decide +kernel⟩, by decide +kernel, by decide +kernel⟩
theorem moX11_letter : MOK iX11_letter := ⟨(gw 449 (by decide +kernel) rfl), (gw 1 (by decide +kernel) rfl), ⟨by decide +kernel, by decide +kernel⟩, by decide +kernel, by decide +kernel⟩
theorem moX11_ofLetter : MOK iX11_ofLetter := ⟨(gw 507 (by decide +kernel) rfl), (gw 1 (by decide +kernel) rfl), ⟨by decide +kernel, by decide +kernel⟩, by decide +kernel, by decide +kernel⟩
theorem moX11_read : MOK iX11_read := ⟨(gw 524 (by decide +kernel) rfl), (gw 1 (by decide +kernel) rfl), ⟨by decide +kernel, by decide +kernel⟩, by decide +kernel, by decide +kernel⟩
theorem moX11_need : MOK iX11_need := ⟨(gw 542 (by decide +kernel) rfl), (gw 1 (by decide +kernel) rfl), ⟨by decide +kernel, by decide +kernel⟩, by decide +kernel, by decide +kernel⟩
theorem moX11_bag : MOK iX11_bag := ⟨(gw 551 (by decide +kernel) rfl), (gw 1 (by decide +kernel) rfl), ⟨by decide +kernel, by decide +kernel⟩, by decide +kernel, by decide +kernel⟩
theorem moX11_out : MOK iX11_out := ⟨(gw 563 (by decide +kernel) rfl), (gw 1 (by decide +kernel) rfl), ⟨by decide +kernel, by decide +kernel⟩, by decide +kernel, by decide +kernel⟩
theorem moX11_last : MOK iX11_last := ⟨(gw 571 (by decide +kernel) rfl), (gw 1 (by decide +kernel) rfl), ⟨by decide +kernel, by decide +kernel⟩, by decide +kernel, by decide +kernel⟩
theorem moX11_beside : MOK iX11_beside := ⟨(gw 588 (by decide +kernel) rfl), (gw 1 (by decide +kernel) rfl), ⟨by decide +kernel, by decide +kernel⟩, by decide +kernel, by decide +kernel⟩
theorem moX11_spread : MOK iX11_spread := ⟨(gw 613 (by decide +kernel) rfl), (gw 1 (by decide +kernel) rfl), ⟨by decide +kernel, by decide +kernel⟩, by decide +kernel, by decide +kernel⟩
theorem moX11_chance : MOK iX11_chance := ⟨(gw 621 (by decide +kernel) rfl), (gw 1 (by decide +kernel) rfl), ⟨by decide +kernel, by decide +kernel⟩, by decide +kernel, by decide +kernel⟩
theorem moX11_best : MOK iX11_best := ⟨(gw 645 (by decide +kernel) rfl), (gw 1 (by decide +kernel) rfl), ⟨by decide +kernel, by decide +kernel⟩, by decide +kernel, by decide +kernel⟩
theorem moX11_strip : MOK iX11_strip := ⟨(gw 650 (by decide +kernel) rfl), (gw 1 (by decide +kernel) rfl), ⟨by decide +kernel, by decide +kernel⟩, by decide +kernel, by decide +kernel⟩
theorem moX11_with : MOK iX11_with := ⟨(gw 667 (by decide +kernel) rfl), (gw 1 (by decide +kernel) rfl), ⟨by decide +kernel, by decide +kernel⟩, by decide +kernel, by decide +kernel⟩
theorem moX11_crib : MOK iX11_crib := ⟨(gw 676 (by decide +kernel) rfl), (gw 1 (by decide +kernel) rfl), ⟨by decide +kernel, by decide +kernel⟩, by decide +kernel, by decide +kernel⟩
theorem moX11_open : MOK iX11_open := ⟨(gw 685 (by decide +kernel) rfl), (gw 1 (by decide +kernel) rfl), ⟨by decide +kernel, by decide +kernel⟩, by decide +kernel, by decide +kernel⟩
theorem moX11_makers : MOK iX11_makers := ⟨(gw 693 (by decide +kernel) rfl), (gw 1 (by decide +kernel) rfl), ⟨by decide +kernel, by decide +kernel⟩, by decide +kernel, by decide +kernel⟩
theorem moX11_like : MOK iX11_like := ⟨(gw 723 (by decide +kernel) rfl), (gw 1 (by decide +kernel) rfl), ⟨by decide +kernel, by decide +kernel⟩, by decide +kernel, by decide +kernel⟩
theorem moX11_next : MOK iX11_next := ⟨(gw 734 (by decide +kernel) rfl), (gw 1 (by decide +kernel) rfl), ⟨by decide +kernel, by decide +kernel⟩, by decide +kernel, by decide +kernel⟩
theorem moX11_sheet : MOK iX11_sheet := ⟨(gw 745 (by decide +kernel) rfl), (gw 1 (by decide +kernel) rfl), ⟨by decide +kernel, by decide +kernel⟩, by decide +kernel, by decide +kernel⟩
theorem moX11_lose : MOK iX11_lose := ⟨(gw 753 (by decide +kernel) rfl), (gw 1 (by decide +kernel) rfl), ⟨by decide +kernel, by decide +kernel⟩, by decide +kernel, by decide +kernel⟩
theorem moX11_put : MOK iX11_put := ⟨(gw 762 (by decide +kernel) rfl), (gw 1 (by decide +kernel) rfl), ⟨by decide +kernel, by decide +kernel⟩, by decide +kernel, by decide +kernel⟩
theorem moX11_cell : MOK iX11_cell := ⟨(gw 775 (by decide +kernel) rfl), (gw 1 (by decide +kernel) rfl), ⟨by decide +kernel, by decide +kernel⟩, by decide +kernel, by decide +kernel⟩
theorem moX11_copy : MOK iX11_copy := ⟨(gw 784 (by decide +kernel) rfl), (gw 1 (by decide +kernel) rfl), ⟨by decide +kernel, by decide +kernel⟩, by decide +kernel, by decide +kernel⟩
theorem moX11_tell : MOK iX11_tell := ⟨(gw 800 (by decide +kernel) rfl), (gw 1 (by decide +kernel) rfl), ⟨by decide +kernel, by decide +kernel⟩, by decide +kernel, by decide +kernel⟩
theorem moX11_mark : MOK iX11_mark := ⟨(gw 831 (by decide +kernel) rfl), (gw 1 (by decide +kernel) rfl), ⟨by decide +kernel, by decide +kernel⟩, by decide +kernel, by decide +kernel⟩
theorem moX11_as : MOK iX11_as := ⟨(gw 844 (by decide +kernel) rfl), (gw 1 (by decide +kernel) rfl), ⟨by decide +kernel, by decide +kernel⟩, by decide +kernel, by decide +kernel⟩
theorem moX11_trace : MOK iX11_trace := ⟨(gw 848 (by decide +kernel) rfl), (gw 1 (by decide +kernel) rfl), ⟨by decide +kernel, by decide +kernel⟩, by decide +kernel, by decide +kernel⟩
theorem moX11_fault : MOK iX11_fault := ⟨(gw 852 (by decide +kernel) rfl), (gw 1 (by decide +kernel) rfl), ⟨by decide +kernel, by decide +kernel⟩, by decide +kernel, by decide +kernel⟩
theorem moX11_many : MOK iX11_many := ⟨(gw 856 (by decide +kernel) rfl), (gw 1 (by decide +kernel) rfl), ⟨by decide +kernel, by decide +kernel⟩, by decide +kernel, by decide +kernel⟩
theorem moX11_isBelow : MOK iX11_isBelow := ⟨(gw 153 (by decide +kernel) rfl), (gw 1 (by decide +kernel) rfl), ⟨by decide +kernel, by decide +kernel⟩, by decide +kernel, by decide +kernel⟩
theorem moX11_asNumber : MOK iX11_asNumber := ⟨(gw 315 (by decide +kernel) rfl), (gw 1 (by decide +kernel) rfl), ⟨by decide +kernel, by decide +kernel⟩, by decide +kernel, by decide +kernel⟩
theorem moX11_newPage : MOK iX11_newPage := ⟨(gw 341 (by decide +kernel) rfl), (gw 1 (by decide +kernel) rfl), ⟨by decide +kernel, by decide +kernel⟩, by decide +kernel, by decide +kernel⟩
theorem moX11_sheetAt : MOK iX11_sheetAt := ⟨(gw 193 (by decide +kernel) rfl), (gw 1 (by decide +kernel) rfl), ⟨by decide +kernel, by decide +kernel⟩, by decide +kernel, by decide +kernel⟩
theorem moX11_pageAt : MOK iX11_pageAt := ⟨(gw 391 (by decide +kernel) rfl), (gw 1 (by decide +kernel) rfl), ⟨by decide +kernel, by decide +kernel⟩, by decide +kernel, by decide +kernel⟩
theorem moX11_letterAt : MOK iX11_letterAt := ⟨(gw 511 (by decide +kernel) rfl), (gw 1 (by decide +kernel) rfl), ⟨by decide +kernel, by decide +kernel⟩, by decide +kernel, by decide +kernel⟩
theorem moX11_comeTo : MOK iX11_comeTo := ⟨(gw 213 (by decide +kernel) rfl), (gw 1 (by decide +kernel) rfl), ⟨by decide +kernel, by decide +kernel⟩, by decide +kernel, by decide +kernel⟩
theorem moX11_isWrong : MOK iX11_isWrong := ⟨(gw 528 (by decide +kernel) rfl), (gw 1 (by decide +kernel) rfl), ⟨by decide +kernel, by decide +kernel⟩, by decide +kernel, by decide +kernel⟩
theorem moX11_lettersUpTo : MOK iX11_lettersUpTo := ⟨(gw 689 (by decide +kernel) rfl), (gw 1 (by decide +kernel) rfl), ⟨by decide +kernel, by decide +kernel⟩, by decide +kernel, by decide +kernel⟩
theorem moX12_init : MOK iX12_init := ⟨(gw 865 (by decide +kernel) rfl), (gw 7 (by decide +kernel) rfl), ⟨by decide +kernel, by decide +kernel⟩, by decide +kernel, by decide +kernel⟩
theorem moX12_in : MOK iX12_in := ⟨(gw 977 (by decide +kernel) rfl), (gw 7 (by decide +kernel) rfl), ⟨by decide +kernel, by decide +kernel⟩, by decide +kernel, by decide +kernel⟩
theorem moX12_lost : MOK iX12_lost := ⟨(gw 1162 (by decide +kernel) rfl), (gw 7 (by decide +kernel) rfl), ⟨by decide +kernel, by decide +kernel⟩, by decide +kernel, by decide +kernel⟩
theorem moX12_lesser : MOK iX12_lesser := ⟨(gw 1098 (by decide +kernel) rfl), (gw 7 (by decide +kernel) rfl), ⟨by decide +kernel, by decide +kernel⟩, by decide +kernel, by decide +kernel⟩
theorem moX12_rest : MOK iX12_rest := ⟨(gw 1082 (by decide +kernel) rfl), (gw 7 (by decide +kernel) rfl), ⟨by decide +kernel, by decide +kernel⟩, by decide +kernel, by decide +kernel⟩
theorem moX12_share : MOK iX12_share := ⟨(gw 1177 (by decide +kernel) rfl), (gw 7 (by decide +kernel) rfl), ⟨by decide +kernel, by decide +kernel⟩, by decide +kernel, by decide +kernel⟩
theorem moX12_refused : MOK iX12_refused := ⟨(gw 995 (by decide +kernel) rfl), (gw 7 (by decide +kernel) rfl), ⟨by decide +kernel, by decide +kernel⟩, by decide +kernel, by decide +kernel⟩
theorem moX12_failed : MOK iX12_failed := ⟨(gw 1004 (by decide +kernel) rfl), (gw 7 (by decide +kernel) rfl), ⟨by decide +kernel, by decide +kernel⟩, by decide +kernel, by decide +kernel⟩
theorem moX12_failedLong : MOK iX12_failedLong := ⟨(gw 1241 (by decide +kernel) rfl), (gw 7 (by decide +kernel) rfl), ⟨by decide +kernel, by decide +kernel⟩, by decide +kernel, by decide +kernel⟩
theorem moX12_barred : MOK iX12_barred := ⟨(gw 999 (by decide +kernel) rfl), (gw 7 (by decide +kernel) rfl), ⟨by decide +kernel, by decide +kernel⟩, by decide +kernel, by decide +kernel⟩
theorem moX12_noWord : MOK iX12_noWord := ⟨(gw 973 (by decide +kernel) rfl), (gw 7 (by decide +kernel) rfl), ⟨by decide +kernel, by decide +kernel⟩, by decide +kernel, by decide +kernel⟩
theorem moX12_isGroup : MOK iX12_isGroup := ⟨(gw 1041 (by decide +kernel) rfl), (gw 7 (by decide +kernel) rfl), ⟨by decide +kernel, by decide +kernel⟩, by decide +kernel, by decide +kernel⟩
theorem moX12_code : MOK iX12_code := ⟨(gw 970 (by decide +kernel) rfl), (gw 7 (by decide +kernel) rfl), ⟨by decide +kernel, by decide +kernel⟩, by decide +kernel, by decide +kernel⟩
theorem moX12_weight : MOK iX12_weight := ⟨(gw 983 (by decide +kernel) rfl), (gw 7 (by decide +kernel) rfl), ⟨by decide +kernel, by decide +kernel⟩, by decide +kernel, by decide +kernel⟩
theorem moX12_letterOf : MOK iX12_letterOf := ⟨(gw 1014 (by decide +kernel) rfl), (gw 7 (by decide +kernel) rfl), ⟨by decide +kernel, by decide +kernel⟩, by decide +kernel, by decide +kernel⟩
theorem moX12_readsNumber : MOK iX12_readsNumber := ⟨(gw 1018 (by decide +kernel) rfl), (gw 7 (by decide +kernel) rfl), ⟨by decide +kernel, by decide +kernel⟩, by decide +kernel, by decide +kernel⟩
theorem moX12_readDrill : MOK iX12_readDrill := ⟨(gw 1011 (by decide +kernel) rfl), (gw 7 (by decide +kernel) rfl), ⟨by decide +kernel, by decide +kernel⟩, by decide +kernel, by decide +kernel⟩
theorem moX12_drill : MOK iX12_drill := ⟨(gw 987 (by decide +kernel) rfl), (gw 7 (by decide +kernel) rfl), ⟨by decide +kernel, by decide +kernel⟩, by decide +kernel, by decide +kernel⟩
theorem moX12_ofDrill : MOK iX12_ofDrill := ⟨(gw 1025 (by decide +kernel) rfl), (gw 7 (by decide +kernel) rfl), ⟨by decide +kernel, by decide +kernel⟩, by decide +kernel, by decide +kernel⟩
theorem moX12_noPage : MOK iX12_noPage := ⟨(gw 1049 (by decide +kernel) rfl), (gw 7 (by decide +kernel) rfl), ⟨by decide +kernel, by decide +kernel⟩, by decide +kernel, by decide +kernel⟩
theorem moX12_noPost : MOK iX12_noPost := ⟨(gw 1032 (by decide +kernel) rfl), (gw 7 (by decide +kernel) rfl), ⟨by decide +kernel, by decide +kernel⟩, by decide +kernel, by decide +kernel⟩
theorem moX12_areGroups : MOK iX12_areGroups := ⟨(gw 1038 (by decide +kernel) rfl), (gw 7 (by decide +kernel) rfl), ⟨by decide +kernel, by decide +kernel⟩, by decide +kernel, by decide +kernel⟩
theorem moX12_page : MOK iX12_page := ⟨(gw 1029 (by decide +kernel) rfl), (gw 7 (by decide +kernel) rfl), ⟨by decide +kernel, by decide +kernel⟩, by decide +kernel, by decide +kernel⟩
theorem moX12_usable : MOK iX12_usable := ⟨(gw 1053 (by decide +kernel) rfl), (gw 7 (by decide +kernel) rfl), ⟨by decide +kernel, by decide +kernel⟩, by decide +kernel, by decide +kernel⟩
theorem moX12_ofPage : MOK iX12_ofPage := ⟨(gw 1045 (by decide +kernel) rfl), (gw 7 (by decide +kernel) rfl), ⟨by decide +kernel, by decide +kernel⟩, by decide +kernel, by decide +kernel⟩
theorem moX12_noLetter : MOK iX12_noLetter := ⟨(gw 1090 (by decide +kernel) rfl), (gw 7 (by decide +kernel) rfl), ⟨by decide +kernel, by decide +kernel⟩, by decide +kernel, by decide +kernel⟩
theorem moX12_isDay : MOK iX12_isDay := ⟨(gw 1063 (by decide +kernel) rfl), (gw 7 (by decide +kernel) rfl), ⟨by decide +kernel, by decide +kernel⟩, by decide +kernel, by decide +kernel⟩
theorem moX12_layGroup : MOK iX12_layGroup := ⟨(gw 1075 (by decide +kernel) rfl), (gw 7 (by decide +kernel) rfl), ⟨by decide +kernel, by decide +kernel⟩, by decide +kernel, by decide +kernel⟩
theorem moX12_checkOf : MOK iX12_checkOf := ⟨(gw 1079 (by decide +kernel) rfl), (gw 7 (by decide +kernel) rfl), ⟨by decide +kernel, by decide +kernel⟩, by decide +kernel, by decide +kernel⟩
theorem moX12_layWords : MOK iX12_layWords := ⟨(gw 1071 (by decide +kernel) rfl), (gw 7 (by decide +kernel) rfl), ⟨by decide +kernel, by decide +kernel⟩, by decide +kernel, by decide +kernel⟩
theorem moX12_areWords : MOK iX12_areWords := ⟨(gw 1067 (by decide +kernel) rfl), (gw 7 (by decide +kernel) rfl), ⟨by decide +kernel, by decide +kernel⟩, by decide +kernel, by decide +kernel⟩
theorem moX12_letter : MOK iX12_letter := ⟨(gw 1059 (by decide +kernel) rfl), (gw 7 (by decide +kernel) rfl), ⟨by decide +kernel, by decide +kernel⟩, by decide +kernel, by decide +kernel⟩
theorem moX12_ofLetter : MOK iX12_ofLetter := ⟨(gw 1086 (by decide +kernel) rfl), (gw 7 (by decide +kernel) rfl), ⟨by decide +kernel, by decide +kernel⟩, by decide +kernel, by decide +kernel⟩
theorem moX12_read : MOK iX12_read := ⟨(gw 1094 (by decide +kernel) rfl), (gw 7 (by decide +kernel) rfl), ⟨by decide +kernel, by decide +kernel⟩, by decide +kernel, by decide +kernel⟩
theorem moX12_need : MOK iX12_need := ⟨(gw 1102 (by decide +kernel) rfl), (gw 7 (by decide +kernel) rfl), ⟨by decide +kernel, by decide +kernel⟩, by decide +kernel, by decide +kernel⟩
theorem moX12_bag : MOK iX12_bag := ⟨(gw 1106 (by decide +kernel) rfl), (gw 7 (by decide +kernel) rfl), ⟨by decide +kernel, by decide +kernel⟩, by decide +kernel, by decide +kernel⟩
theorem moX12_comesOn : MOK iX12_comesOn := ⟨(gw 1119 (by decide +kernel) rfl), (gw 7 (by decide +kernel) rfl), ⟨by decide +kernel, by decide +kernel⟩, by decide +kernel, by decide +kernel⟩
theorem moX12_outDay : MOK iX12_outDay := ⟨(gw 1115 (by decide +kernel) rfl), (gw 7 (by decide +kernel) rfl), ⟨by decide +kernel, by decide +kernel⟩, by decide +kernel, by decide +kernel⟩
theorem moX12_out : MOK iX12_out := ⟨(gw 1110 (by decide +kernel) rfl), (gw 7 (by decide +kernel) rfl), ⟨by decide +kernel, by decide +kernel⟩, by decide +kernel, by decide +kernel⟩
theorem moX12_takesFor : MOK iX12_takesFor := ⟨(gw 1127 (by decide +kernel) rfl), (gw 7 (by decide +kernel) rfl), ⟨by decide +kernel, by decide +kernel⟩, by decide +kernel, by decide +kernel⟩
theorem moX12_last : MOK iX12_last := ⟨(gw 1123 (by decide +kernel) rfl), (gw 7 (by decide +kernel) rfl), ⟨by decide +kernel, by decide +kernel⟩, by decide +kernel, by decide +kernel⟩
theorem moX12_placesOf : MOK iX12_placesOf := ⟨(gw 1135 (by decide +kernel) rfl), (gw 7 (by decide +kernel) rfl), ⟨by decide +kernel, by decide +kernel⟩, by decide +kernel, by decide +kernel⟩
theorem moX12_differ : MOK iX12_differ := ⟨(gw 1139 (by decide +kernel) rfl), (gw 7 (by decide +kernel) rfl), ⟨by decide +kernel, by decide +kernel⟩, by decide +kernel, by decide +kernel⟩
theorem moX12_pairsBy : MOK iX12_pairsBy := ⟨(gw 1143 (by decide +kernel) rfl), (gw 7 (by decide +kernel) rfl), ⟨by decide +kernel, by decide +kernel⟩, by decide +kernel, by decide +kernel⟩
theorem moX12_fitsOf : MOK iX12_fitsOf := ⟨(gw 1147 (by decide +kernel) rfl), (gw 7 (by decide +kernel) rfl), ⟨by decide +kernel, by decide +kernel⟩, by decide +kernel, by decide +kernel⟩
theorem moX12_beside : MOK iX12_beside := ⟨(gw 1131 (by decide +kernel) rfl), (gw 7 (by decide +kernel) rfl), ⟨by decide +kernel, by decide +kernel⟩, by decide +kernel, by decide +kernel⟩
theorem moX12_spreadOf : MOK iX12_spreadOf := ⟨(gw 1155 (by decide +kernel) rfl), (gw 7 (by decide +kernel) rfl), ⟨by decide +kernel, by decide +kernel⟩, by decide +kernel, by decide +kernel⟩
theorem moX12_spread : MOK iX12_spread := ⟨(gw 1151 (by decide +kernel) rfl), (gw 7 (by decide +kernel) rfl), ⟨by decide +kernel, by decide +kernel⟩, by decide +kernel, by decide +kernel⟩
theorem moX12_power : MOK iX12_power := ⟨(gw 1173 (by decide +kernel) rfl), (gw 7 (by decide +kernel) rfl), ⟨by decide +kernel, by decide +kernel⟩, by decide +kernel, by decide +kernel⟩
theorem moX12_choose : MOK iX12_choose := ⟨(gw 1170 (by decide +kernel) rfl), (gw 7 (by decide +kernel) rfl), ⟨by decide +kernel, by decide +kernel⟩, by decide +kernel, by decide +kernel⟩
theorem moX12_rowsOf : MOK iX12_rowsOf := ⟨(gw 1167 (by decide +kernel) rfl), (gw 7 (by decide +kernel) rfl), ⟨by decide +kernel, by decide +kernel⟩, by decide +kernel, by decide +kernel⟩
theorem moX12_chance : MOK iX12_chance := ⟨(gw 1159 (by decide +kernel) rfl), (gw 7 (by decide +kernel) rfl), ⟨by decide +kernel, by decide +kernel⟩, by decide +kernel, by decide +kernel⟩
theorem moX12_best : MOK iX12_best := ⟨(gw 1181 (by decide +kernel) rfl), (gw 7 (by decide +kernel) rfl), ⟨by decide +kernel, by decide +kernel⟩, by decide +kernel, by decide +kernel⟩
theorem moX12_strip : MOK iX12_strip := ⟨(gw 1185 (by decide +kernel) rfl), (gw 7 (by decide +kernel) rfl), ⟨by decide +kernel, by decide +kernel⟩, by decide +kernel, by decide +kernel⟩
theorem moX12_with : MOK iX12_with := ⟨(gw 1189 (by decide +kernel) rfl), (gw 7 (by decide +kernel) rfl), ⟨by decide +kernel, by decide +kernel⟩, by decide +kernel, by decide +kernel⟩
theorem moX12_doesMeet : MOK iX12_doesMeet := ⟨(gw 1197 (by decide +kernel) rfl), (gw 7 (by decide +kernel) rfl), ⟨by decide +kernel, by decide +kernel⟩, by decide +kernel, by decide +kernel⟩
theorem moX12_crib : MOK iX12_crib := ⟨(gw 1193 (by decide +kernel) rfl), (gw 7 (by decide +kernel) rfl), ⟨by decide +kernel, by decide +kernel⟩, by decide +kernel, by decide +kernel⟩
theorem moX12_open : MOK iX12_open := ⟨(gw 1201 (by decide +kernel) rfl), (gw 7 (by decide +kernel) rfl), ⟨by decide +kernel, by decide +kernel⟩, by decide +kernel, by decide +kernel⟩
theorem moX12_didMake : MOK iX12_didMake := ⟨(gw 1209 (by decide +kernel) rfl), (gw 7 (by decide +kernel) rfl), ⟨by decide +kernel, by decide +kernel⟩, by decide +kernel, by decide +kernel⟩
theorem moX12_makers : MOK iX12_makers := ⟨(gw 1205 (by decide +kernel) rfl), (gw 7 (by decide +kernel) rfl), ⟨by decide +kernel, by decide +kernel⟩, by decide +kernel, by decide +kernel⟩
theorem moX12_like : MOK iX12_like := ⟨(gw 1213 (by decide +kernel) rfl), (gw 7 (by decide +kernel) rfl), ⟨by decide +kernel, by decide +kernel⟩, by decide +kernel, by decide +kernel⟩
theorem moX12_next : MOK iX12_next := ⟨(gw 1217 (by decide +kernel) rfl), (gw 7 (by decide +kernel) rfl), ⟨by decide +kernel, by decide +kernel⟩, by decide +kernel, by decide +kernel⟩
theorem moX12_noSheet : MOK iX12_noSheet := ⟨(gw 990 (by decide +kernel) rfl), (gw 7 (by decide +kernel) rfl), ⟨by decide +kernel, by decide +kernel⟩, by decide +kernel, by decide +kernel⟩
theorem moX12_sheet : MOK iX12_sheet := ⟨(gw 1221 (by decide +kernel) rfl), (gw 7 (by decide +kernel) rfl), ⟨by decide +kernel, by decide +kernel⟩, by decide +kernel, by decide +kernel⟩
theorem moX12_lose : MOK iX12_lose := ⟨(gw 1225 (by decide +kernel) rfl), (gw 7 (by decide +kernel) rfl), ⟨by decide +kernel, by decide +kernel⟩, by decide +kernel, by decide +kernel⟩
theorem moX12_noCell : MOK iX12_noCell := ⟨(gw 1233 (by decide +kernel) rfl), (gw 7 (by decide +kernel) rfl), ⟨by decide +kernel, by decide +kernel⟩, by decide +kernel, by decide +kernel⟩
theorem moX12_put : MOK iX12_put := ⟨(gw 1229 (by decide +kernel) rfl), (gw 7 (by decide +kernel) rfl), ⟨by decide +kernel, by decide +kernel⟩, by decide +kernel, by decide +kernel⟩
theorem moX12_cell : MOK iX12_cell := ⟨(gw 1237 (by decide +kernel) rfl), (gw 7 (by decide +kernel) rfl), ⟨by decide +kernel, by decide +kernel⟩, by decide +kernel, by decide +kernel⟩
theorem moX12_isBeyond : MOK iX12_isBeyond := ⟨(gw 1007 (by decide +kernel) rfl), (gw 7 (by decide +kernel) rfl), ⟨by decide +kernel, by decide +kernel⟩, by decide +kernel, by decide +kernel⟩
theorem moX12_copy : MOK iX12_copy := ⟨(gw 1245 (by decide +kernel) rfl), (gw 7 (by decide +kernel) rfl), ⟨by decide +kernel, by decide +kernel⟩, by decide +kernel, by decide +kernel⟩
theorem moX12_traced : MOK iX12_traced := ⟨(gw 1253 (by decide +kernel) rfl), (gw 7 (by decide +kernel) rfl), ⟨by decide +kernel, by decide +kernel⟩, by decide +kernel, by decide +kernel⟩
theorem moX12_tell : MOK iX12_tell := ⟨(gw 1249 (by decide +kernel) rfl), (gw 7 (by decide +kernel) rfl), ⟨by decide +kernel, by decide +kernel⟩, by decide +kernel, by decide +kernel⟩
theorem moX12_mark : MOK iX12_mark := ⟨(gw 1257 (by decide +kernel) rfl), (gw 7 (by decide +kernel) rfl), ⟨by decide +kernel, by decide +kernel⟩, by decide +kernel, by decide +kernel⟩
theorem moX12_as : MOK iX12_as := ⟨(gw 1261 (by decide +kernel) rfl), (gw 7 (by decide +kernel) rfl), ⟨by decide +kernel, by decide +kernel⟩, by decide +kernel, by decide +kernel⟩
theorem moX12_trace : MOK iX12_trace := ⟨(gw 1265 (by decide +kernel) rfl), (gw 7 (by decide +kernel) rfl), ⟨by decide +kernel, by decide +kernel⟩, by decide +kernel, by decide +kernel⟩
theorem moX12_fault : MOK iX12_fault := ⟨(gw 1269 (by decide +kernel) rfl), (gw 7 (by decide +kernel) rfl), ⟨by decide +kernel, by decide +kernel⟩, by decide +kernel, by decide +kernel⟩
theorem moX12_many : MOK iX12_many := ⟨(gw 1273 (by decide +kernel) rfl), (gw 7 (by decide +kernel) rfl), ⟨by decide +kernel, by decide +kernel⟩, by decide +kernel, by decide +kernel⟩
theorem moJ9_floorMod_7cf53 : MOK iJ9_floorMod_7cf53 := ⟨(gw 173 (by decide +kernel) rfl), (gw 8 (by decide +kernel) rfl), ⟨by decide +kernel, by decide +kernel⟩, by decide +kernel, by decide +kernel⟩
theorem moJ9_max_7cf53 : MOK iJ9_max_7cf53 := ⟨(gw 338 (by decide +kernel) rfl), (gw 8 (by decide +kernel) rfl), ⟨by decide +kernel, by decide +kernel⟩, by decide +kernel, by decide +kernel⟩
theorem moJ9_min_7cf53 : MOK iJ9_min_7cf53 := ⟨(gw 335 (by decide +kernel) rfl), (gw 8 (by decide +kernel) rfl), ⟨by decide +kernel, by decide +kernel⟩, by decide +kernel, by decide +kernel⟩
set_option maxRecDepth 20000 in
theorem inX0 : ∀ w ∈ u_ws RX0 TX0 5, GW w := by
  have h : u_ws RX0 TX0 5 = [35, 37, 39, 41, 43].filterMap (fun i => tables_1[i]?) := by decide +kernel
  have h2 : (u_ws RX0 TX0 5).all goodWord = true := by decide +kernel
  intro w hw
  have hg := List.all_eq_true.mp h2 w hw
  rw [h] at hw
  obtain ⟨i, -, hi⟩ := List.mem_filterMap.mp hw
  exact ⟨List.mem_append_right _ (List.mem_of_getElem? hi), hg⟩
set_option maxRecDepth 20000 in
theorem inX1 : ∀ w ∈ u_ws RX1 TX1 1, GW w := by
  have h : u_ws RX1 TX1 1 = [98].filterMap (fun i => tables_1[i]?) := by decide +kernel
  have h2 : (u_ws RX1 TX1 1).all goodWord = true := by decide +kernel
  intro w hw
  have hg := List.all_eq_true.mp h2 w hw
  rw [h] at hw
  obtain ⟨i, -, hi⟩ := List.mem_filterMap.mp hw
  exact ⟨List.mem_append_right _ (List.mem_of_getElem? hi), hg⟩
set_option maxRecDepth 20000 in
theorem inX2 : ∀ w ∈ u_ws RX2 TX2 5, GW w := by
  have h : u_ws RX2 TX2 5 = [227, 229, 231, 233, 235].filterMap (fun i => tables_1[i]?) := by decide +kernel
  have h2 : (u_ws RX2 TX2 5).all goodWord = true := by decide +kernel
  intro w hw
  have hg := List.all_eq_true.mp h2 w hw
  rw [h] at hw
  obtain ⟨i, -, hi⟩ := List.mem_filterMap.mp hw
  exact ⟨List.mem_append_right _ (List.mem_of_getElem? hi), hg⟩
set_option maxRecDepth 20000 in
theorem inX3 : ∀ w ∈ u_ws RX3 TX3 3, GW w := by
  have h : u_ws RX3 TX3 3 = [497, 499, 501].filterMap (fun i => tables_1[i]?) := by decide +kernel
  have h2 : (u_ws RX3 TX3 3).all goodWord = true := by decide +kernel
  intro w hw
  have hg := List.all_eq_true.mp h2 w hw
  rw [h] at hw
  obtain ⟨i, -, hi⟩ := List.mem_filterMap.mp hw
  exact ⟨List.mem_append_right _ (List.mem_of_getElem? hi), hg⟩
set_option maxRecDepth 20000 in
theorem inX5 : ∀ w ∈ u_ws RX5 TX5 4, GW w := by
  have h : u_ws RX5 TX5 4 = [379, 380, 381, 382].filterMap (fun i => tables_1[i]?) := by decide +kernel
  have h2 : (u_ws RX5 TX5 4).all goodWord = true := by decide +kernel
  intro w hw
  have hg := List.all_eq_true.mp h2 w hw
  rw [h] at hw
  obtain ⟨i, -, hi⟩ := List.mem_filterMap.mp hw
  exact ⟨List.mem_append_right _ (List.mem_of_getElem? hi), hg⟩
set_option maxRecDepth 20000 in
theorem inX6 : ∀ w ∈ u_ws RX6 TX6 6, GW w := by
  have h : u_ws RX6 TX6 6 = [61, 63, 65, 67, 69, 71].filterMap (fun i => tables_1[i]?) := by decide +kernel
  have h2 : (u_ws RX6 TX6 6).all goodWord = true := by decide +kernel
  intro w hw
  have hg := List.all_eq_true.mp h2 w hw
  rw [h] at hw
  obtain ⟨i, -, hi⟩ := List.mem_filterMap.mp hw
  exact ⟨List.mem_append_right _ (List.mem_of_getElem? hi), hg⟩
set_option maxRecDepth 20000 in
theorem inX7 : ∀ w ∈ u_ws RX7 TX7 3, GW w := by
  have h : u_ws RX7 TX7 3 = [109, 111, 113].filterMap (fun i => tables_1[i]?) := by decide +kernel
  have h2 : (u_ws RX7 TX7 3).all goodWord = true := by decide +kernel
  intro w hw
  have hg := List.all_eq_true.mp h2 w hw
  rw [h] at hw
  obtain ⟨i, -, hi⟩ := List.mem_filterMap.mp hw
  exact ⟨List.mem_append_right _ (List.mem_of_getElem? hi), hg⟩
set_option maxRecDepth 20000 in
theorem inX8 : ∀ w ∈ u_ws RX8 TX8 4, GW w := by
  have h : u_ws RX8 TX8 4 = [357, 359, 361, 363].filterMap (fun i => tables_1[i]?) := by decide +kernel
  have h2 : (u_ws RX8 TX8 4).all goodWord = true := by decide +kernel
  intro w hw
  have hg := List.all_eq_true.mp h2 w hw
  rw [h] at hw
  obtain ⟨i, -, hi⟩ := List.mem_filterMap.mp hw
  exact ⟨List.mem_append_right _ (List.mem_of_getElem? hi), hg⟩
set_option maxRecDepth 20000 in
theorem inX9 : ∀ w ∈ u_ws RX9 TX9 4, GW w := by
  have h : u_ws RX9 TX9 4 = [372, 373, 374, 375].filterMap (fun i => tables_1[i]?) := by decide +kernel
  have h2 : (u_ws RX9 TX9 4).all goodWord = true := by decide +kernel
  intro w hw
  have hg := List.all_eq_true.mp h2 w hw
  rw [h] at hw
  obtain ⟨i, -, hi⟩ := List.mem_filterMap.mp hw
  exact ⟨List.mem_append_right _ (List.mem_of_getElem? hi), hg⟩
set_option maxRecDepth 20000 in
theorem inX10 : ∀ w ∈ u_ws RX10 TX10 1, GW w := by
  have h : u_ws RX10 TX10 1 = [82].filterMap (fun i => tables_1[i]?) := by decide +kernel
  have h2 : (u_ws RX10 TX10 1).all goodWord = true := by decide +kernel
  intro w hw
  have hg := List.all_eq_true.mp h2 w hw
  rw [h] at hw
  obtain ⟨i, -, hi⟩ := List.mem_filterMap.mp hw
  exact ⟨List.mem_append_right _ (List.mem_of_getElem? hi), hg⟩
set_option maxRecDepth 20000 in
theorem inX11 : ∀ w ∈ u_ws RX11 TX11 10, GW w := by
  have h : u_ws RX11 TX11 10 = [126, 128, 130, 132, 134, 136, 138, 140, 142, 144].filterMap (fun i => tables_1[i]?) := by decide +kernel
  have h2 : (u_ws RX11 TX11 10).all goodWord = true := by decide +kernel
  intro w hw
  have hg := List.all_eq_true.mp h2 w hw
  rw [h] at hw
  obtain ⟨i, -, hi⟩ := List.mem_filterMap.mp hw
  exact ⟨List.mem_append_right _ (List.mem_of_getElem? hi), hg⟩
set_option maxRecDepth 20000 in
theorem inX12 : ∀ w ∈ u_ws RX12 TX12 33, GW w := by
  have h : u_ws RX12 TX12 33 = [900, 902, 904, 906, 908, 910, 912, 914, 916, 918, 920, 922, 924, 926, 928, 930, 932, 934, 936, 938, 940, 942, 944, 946, 948, 950, 952, 954, 956, 958, 960, 962, 964].filterMap (fun i => tables_1[i]?) := by decide +kernel
  have h2 : (u_ws RX12 TX12 33).all goodWord = true := by decide +kernel
  intro w hw
  have hg := List.all_eq_true.mp h2 w hw
  rw [h] at hw
  obtain ⟨i, -, hi⟩ := List.mem_filterMap.mp hw
  exact ⟨List.mem_append_right _ (List.mem_of_getElem? hi), hg⟩
theorem clK : ClK := List.forall_mem_cons.mpr ⟨⟨inX0, tyX0_ok, nmX0⟩, List.forall_mem_cons.mpr ⟨⟨inX1, tyX1_ok, nmX1⟩, List.forall_mem_cons.mpr ⟨⟨inX2, tyX2_ok, nmX2⟩, List.forall_mem_cons.mpr ⟨⟨inX3, tyX3_ok, nmX3⟩, List.forall_mem_cons.mpr ⟨⟨inX5, tyX5_ok, nmX5⟩, List.forall_mem_cons.mpr ⟨⟨inX6, tyX6_ok, nmX6⟩, List.forall_mem_cons.mpr ⟨⟨inX7, tyX7_ok, nmX7⟩, List.forall_mem_cons.mpr ⟨⟨inX8, tyX8_ok, nmX8⟩, List.forall_mem_cons.mpr ⟨⟨inX9, tyX9_ok, nmX9⟩, List.forall_mem_cons.mpr ⟨⟨inX10, tyX10_ok, nmX10⟩, List.forall_mem_cons.mpr ⟨⟨inX11, tyX11_ok, nmX11⟩, List.forall_mem_cons.mpr ⟨⟨inX12, tyX12_ok, nmX12⟩, fun _ h => absurd h List.not_mem_nil⟩⟩⟩⟩⟩⟩⟩⟩⟩⟩⟩⟩
theorem gwArr : GW (.arrayClass .int) := (gw 46 (by decide +kernel) rfl)
