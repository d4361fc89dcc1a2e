set_option maxRecDepth 20000 in
theorem fs_RX0_18 : FS RX0 18 [(0, 2)] := List.forall_mem_cons.mpr ⟨⟨(RX0, TX0, 5, tyX0), rfl, by decide, gw 32 (by decide +kernel) rfl⟩, fun _ h => absurd h List.not_mem_nil⟩
set_option maxRecDepth 20000 in
theorem fs_RX0_9 : FS RX0 9 [(0, 0)] := List.forall_mem_cons.mpr ⟨⟨(RX0, TX0, 5, tyX0), rfl, by decide, gw 30 (by decide +kernel) rfl⟩, fun _ h => absurd h List.not_mem_nil⟩
set_option maxRecDepth 20000 in
theorem fs_RX0_21 : FS RX0 21 [(0, 3)] := List.forall_mem_cons.mpr ⟨⟨(RX0, TX0, 5, tyX0), rfl, by decide, gw 33 (by decide +kernel) rfl⟩, fun _ h => absurd h List.not_mem_nil⟩
set_option maxRecDepth 20000 in
theorem fs_RX0_15 : FS RX0 15 [(0, 1)] := List.forall_mem_cons.mpr ⟨⟨(RX0, TX0, 5, tyX0), rfl, by decide, gw 31 (by decide +kernel) rfl⟩, fun _ h => absurd h List.not_mem_nil⟩
set_option maxRecDepth 20000 in
theorem po_RX0_3 {X : Cx} : PS X RX0 3 [(98, 0), (0, 1001)] := ps_obj ⟨(gw 29 (by decide +kernel) rfl), (gw 22 (by decide +kernel) rfl), (gw 23 (by decide +kernel) rfl)⟩
set_option maxRecDepth 20000 in
theorem ss_RX0_24 {X : Cx} (G : GC X) : SS X RX0 24 [(98, 2), (0, 137)] ∧ ([(98, 2), (0, 137)].lookup 0 = some 1000 → GW (.methodLink RX0 24 arraycopyName) ∧ GW (.native arraycopyName) ∧ GW (.static arraycopyName) ∧ GW (.initialized "java/lang/System")) := ss_of mtX11_isBelow moX11_isBelow rfl (gw 152 (by decide +kernel) rfl) (Or.inr (lnk G (host := "BurntPads") 158 (by decide +kernel))) (by decide)
set_option maxRecDepth 20000 in
theorem fs_RX0_28 : FS RX0 28 [(0, 4)] := List.forall_mem_cons.mpr ⟨⟨(RX0, TX0, 5, tyX0), rfl, by decide, gw 34 (by decide +kernel) rfl⟩, fun _ h => absurd h List.not_mem_nil⟩
set_option maxRecDepth 20000 in
theorem vs_RX0_32 {X : Cx} (G : GC X) : VS X RX0 32 [(98, 2), (0, 7)] := vs_of (List.forall_mem_cons.mpr ⟨⟨iX0_changePairs, (RX0, TX0, 5, tyX0), mtX0_changePairs, moX0_changePairs, rfl, (gw 169 (by decide +kernel) rfl), rfl, Or.inl ⟨(gw 167 (by decide +kernel) rfl), selw G (gwp (y := yX0_changePairs) (n := 5) (by decide +kernel))⟩⟩, fun _ h => absurd h List.not_mem_nil⟩)
set_option maxRecDepth 20000 in
theorem ss_RX0_36 {X : Cx} (G : GC X) : SS X RX0 36 [(98, 2), (0, 223)] ∧ ([(98, 2), (0, 223)].lookup 0 = some 1000 → GW (.methodLink RX0 36 arraycopyName) ∧ GW (.native arraycopyName) ∧ GW (.static arraycopyName) ∧ GW (.initialized "java/lang/System")) := ss_of mtJ9_floorMod_7cf53 moJ9_floorMod_7cf53 rfl (gw 172 (by decide +kernel) rfl) (Or.inl (gw 171 (by decide +kernel) rfl)) (by decide)
set_option maxRecDepth 20000 in
theorem vs_RX0_48 {X : Cx} (G : GC X) : VS X RX0 48 [(98, 1), (0, 1)] := vs_of (List.forall_mem_cons.mpr ⟨⟨iX0_codeOf, (RX0, TX0, 5, tyX0), mtX0_codeOf, moX0_codeOf, rfl, (gw 160 (by decide +kernel) rfl), rfl, Or.inl ⟨(gw 455 (by decide +kernel) rfl), selw G (gw 161 (by decide +kernel) rfl)⟩⟩, fun _ h => absurd h List.not_mem_nil⟩)
set_option maxRecDepth 20000 in
theorem vs_RX0_42 {X : Cx} (G : GC X) : VS X RX0 42 [(98, 1), (6, 84)] := vs_of (List.forall_mem_cons.mpr ⟨⟨iX7_at, (RX7, TX7, 3, tyX7), mtX7_at, moX7_at, rfl, (gw 251 (by decide +kernel) rfl), rfl, Or.inl ⟨(gw 454 (by decide +kernel) rfl), selw G (gw 252 (by decide +kernel) rfl)⟩⟩, fun _ h => absurd h List.not_mem_nil⟩)
set_option maxRecDepth 20000 in
theorem vs_RX0_51 {X : Cx} (G : GC X) : VS X RX0 51 [(98, 1), (0, 2)] := vs_of (List.forall_mem_cons.mpr ⟨⟨iX0_wordOf, (RX0, TX0, 5, tyX0), mtX0_wordOf, moX0_wordOf, rfl, (gw 155 (by decide +kernel) rfl), rfl, Or.inl ⟨(gw 661 (by decide +kernel) rfl), selw G (gw 156 (by decide +kernel) rfl)⟩⟩, fun _ h => absurd h List.not_mem_nil⟩)
set_option maxRecDepth 20000 in
theorem vs_RX0_57 {X : Cx} (G : GC X) : VS X RX0 57 [(98, 1), (0, 3)] := vs_of (List.forall_mem_cons.mpr ⟨⟨iX0_weightOf, (RX0, TX0, 5, tyX0), mtX0_weightOf, moX0_weightOf, rfl, (gw 179 (by decide +kernel) rfl), rfl, Or.inl ⟨(gw 662 (by decide +kernel) rfl), selw G (gw 180 (by decide +kernel) rfl)⟩⟩, fun _ h => absurd h List.not_mem_nil⟩)
set_option maxRecDepth 20000 in
theorem vs_RX0_54 {X : Cx} (G : GC X) : VS X RX0 54 [(98, 2), (0, 11)] := vs_of (List.forall_mem_cons.mpr ⟨⟨iX0_partner, (RX0, TX0, 5, tyX0), mtX0_partner, moX0_partner, rfl, (gw 658 (by decide +kernel) rfl), rfl, Or.inl ⟨(gw 657 (by decide +kernel) rfl), selw G (gw 659 (by decide +kernel) rfl)⟩⟩, fun _ h => absurd h List.not_mem_nil⟩)
set_option maxRecDepth 20000 in
theorem fs_RX1_9 : FS RX1 9 [(1, 0)] := List.forall_mem_cons.mpr ⟨⟨(RX1, TX1, 1, tyX1), rfl, by decide, gw 97 (by decide +kernel) rfl⟩, fun _ h => absurd h List.not_mem_nil⟩
set_option maxRecDepth 20000 in
theorem po_RX1_3 {X : Cx} : PS X RX1 3 [(98, 0), (0, 1001)] := ps_obj ⟨(gw 96 (by decide +kernel) rfl), (gw 22 (by decide +kernel) rfl), (gw 23 (by decide +kernel) rfl)⟩
set_option maxRecDepth 20000 in
theorem ss_RX1_18 {X : Cx} (G : GC X) : SS X RX1 18 [(98, 2), (0, 137)] ∧ ([(98, 2), (0, 137)].lookup 0 = some 1000 → GW (.methodLink RX1 18 arraycopyName) ∧ GW (.native arraycopyName) ∧ GW (.static arraycopyName) ∧ GW (.initialized "java/lang/System")) := ss_of mtX11_isBelow moX11_isBelow rfl (gw 152 (by decide +kernel) rfl) (Or.inr (lnk G (host := "BurntPads") 268 (by decide +kernel))) (by decide)
set_option maxRecDepth 20000 in
theorem vs_RX1_28 {X : Cx} (G : GC X) : VS X RX1 28 [(98, 1), (1, 17)] := vs_of (List.forall_mem_cons.mpr ⟨⟨iX1_isTold, (RX1, TX1, 1, tyX1), mtX1_isTold, moX1_isTold, rfl, (gw 265 (by decide +kernel) rfl), rfl, Or.inl ⟨(gw 312 (by decide +kernel) rfl), selw G (gw 266 (by decide +kernel) rfl)⟩⟩, fun _ h => absurd h List.not_mem_nil⟩)
set_option maxRecDepth 20000 in
theorem vs_RX1_36 {X : Cx} (G : GC X) : VS X RX1 36 [(98, 0), (1, 21)] := vs_of (List.forall_mem_cons.mpr ⟨⟨iX1_hasCheck, (RX1, TX1, 1, tyX1), mtX1_hasCheck, moX1_hasCheck, rfl, (gw 309 (by decide +kernel) rfl), rfl, Or.inl ⟨(gw 465 (by decide +kernel) rfl), selw G (gw 310 (by decide +kernel) rfl)⟩⟩, fun _ h => absurd h List.not_mem_nil⟩)
set_option maxRecDepth 20000 in
theorem vs_RX1_32 {X : Cx} (G : GC X) : VS X RX1 32 [(98, 1), (1, 24)] := vs_of (List.forall_mem_cons.mpr ⟨⟨iX1_sizeAheadOfCheck, (RX1, TX1, 1, tyX1), mtX1_sizeAheadOfCheck, moX1_sizeAheadOfCheck, rfl, (gw 462 (by decide +kernel) rfl), rfl, Or.inl ⟨(gw 460 (by decide +kernel) rfl), selw G (gwp (y := yX1_sizeAheadOfCheck) (n := 1) (by decide +kernel))⟩⟩, fun _ h => absurd h List.not_mem_nil⟩)
set_option maxRecDepth 20000 in
theorem vs_RX1_40 {X : Cx} (G : GC X) : VS X RX1 40 [(98, 0), (1, 20)] := vs_of (List.forall_mem_cons.mpr ⟨⟨iX1_multiple, (RX1, TX1, 1, tyX1), mtX1_multiple, moX1_multiple, rfl, (gw 305 (by decide +kernel) rfl), rfl, Or.inl ⟨(gw 464 (by decide +kernel) rfl), selw G (gw 306 (by decide +kernel) rfl)⟩⟩, fun _ h => absurd h List.not_mem_nil⟩)
set_option maxRecDepth 20000 in
theorem ss_RX1_57 {X : Cx} (G : GC X) : SS X RX1 57 [(98, 1), (0, 26)] ∧ ([(98, 1), (0, 26)].lookup 0 = some 1000 → GW (.methodLink RX1 57 arraycopyName) ∧ GW (.native arraycopyName) ∧ GW (.static arraycopyName) ∧ GW (.initialized "java/lang/System")) := ss_of mtX1_checkOfAllButLast moX1_checkOfAllButLast rfl (gw 474 (by decide +kernel) rfl) (Or.inl (gw 473 (by decide +kernel) rfl)) (by decide)
set_option maxRecDepth 20000 in
theorem vs_RX1_52 {X : Cx} (G : GC X) : VS X RX1 52 [(98, 1), (0, 1)] := vs_of (List.forall_mem_cons.mpr ⟨⟨iX0_codeOf, (RX0, TX0, 5, tyX0), mtX0_codeOf, moX0_codeOf, rfl, (gw 160 (by decide +kernel) rfl), rfl, Or.inl ⟨(gw 472 (by decide +kernel) rfl), selw G (gw 161 (by decide +kernel) rfl)⟩⟩, fun _ h => absurd h List.not_mem_nil⟩)
set_option maxRecDepth 20000 in
theorem vs_RX1_47 {X : Cx} (G : GC X) : VS X RX1 47 [(98, 1), (6, 84)] := vs_of (List.forall_mem_cons.mpr ⟨⟨iX7_at, (RX7, TX7, 3, tyX7), mtX7_at, moX7_at, rfl, (gw 251 (by decide +kernel) rfl), rfl, Or.inl ⟨(gw 471 (by decide +kernel) rfl), selw G (gw 252 (by decide +kernel) rfl)⟩⟩, fun _ h => absurd h List.not_mem_nil⟩)
set_option maxRecDepth 20000 in
theorem vs_RX1_44 {X : Cx} (G : GC X) : VS X RX1 44 [(98, 0), (1, 19)] := vs_of (List.forall_mem_cons.mpr ⟨⟨iX1_beginning, (RX1, TX1, 1, tyX1), mtX1_beginning, moX1_beginning, rfl, (gw 301 (by decide +kernel) rfl), rfl, Or.inl ⟨(gw 470 (by decide +kernel) rfl), selw G (gw 302 (by decide +kernel) rfl)⟩⟩, fun _ h => absurd h List.not_mem_nil⟩)
set_option maxRecDepth 20000 in
theorem ss_RX1_61 {X : Cx} (G : GC X) : SS X RX1 61 [(98, 2), (0, 27)] ∧ ([(98, 2), (0, 27)].lookup 0 = some 1000 → GW (.methodLink RX1 61 arraycopyName) ∧ GW (.native arraycopyName) ∧ GW (.static arraycopyName) ∧ GW (.initialized "java/lang/System")) := ss_of mtX1_inCheck moX1_inCheck rfl (gw 477 (by decide +kernel) rfl) (Or.inl (gw 476 (by decide +kernel) rfl)) (by decide)
set_option maxRecDepth 20000 in
theorem fs_RX2_26 : FS RX2 26 [(2, 2)] := List.forall_mem_cons.mpr ⟨⟨(RX2, TX2, 5, tyX2), rfl, by decide, gw 224 (by decide +kernel) rfl⟩, fun _ h => absurd h List.not_mem_nil⟩
set_option maxRecDepth 20000 in
theorem fs_RX2_22 : FS RX2 22 [(2, 1)] := List.forall_mem_cons.mpr ⟨⟨(RX2, TX2, 5, tyX2), rfl, by decide, gw 223 (by decide +kernel) rfl⟩, fun _ h => absurd h List.not_mem_nil⟩
set_option maxRecDepth 20000 in
theorem fs_RX2_18 : FS RX2 18 [(2, 0)] := List.forall_mem_cons.mpr ⟨⟨(RX2, TX2, 5, tyX2), rfl, by decide, gw 222 (by decide +kernel) rfl⟩, fun _ h => absurd h List.not_mem_nil⟩
set_option maxRecDepth 20000 in
theorem fs_RX2_12 : FS RX2 12 [(2, 3)] := List.forall_mem_cons.mpr ⟨⟨(RX2, TX2, 5, tyX2), rfl, by decide, gw 225 (by decide +kernel) rfl⟩, fun _ h => absurd h List.not_mem_nil⟩
set_option maxRecDepth 20000 in
theorem ps_RX2_11 {X : Cx} (G : GC X) : PS X RX2 11 [(98, 0), (0, 14), (201, 0)] := ps_init mtX1_init moX1_init rfl (gw 94 (by decide +kernel) rfl) rfl rfl (Or.inr (lnk G (host := "BurntPads") 221 (by decide +kernel))) (by decide)
set_option maxRecDepth 20000 in
theorem po_RX2_3 {X : Cx} : PS X RX2 3 [(98, 0), (0, 1001)] := ps_obj ⟨(gw 219 (by decide +kernel) rfl), (gw 22 (by decide +kernel) rfl), (gw 23 (by decide +kernel) rfl)⟩
set_option maxRecDepth 20000 in
theorem fs_RX2_33 : FS RX2 33 [(2, 4)] := List.forall_mem_cons.mpr ⟨⟨(RX2, TX2, 5, tyX2), rfl, by decide, gw 226 (by decide +kernel) rfl⟩, fun _ h => absurd h List.not_mem_nil⟩
set_option maxRecDepth 20000 in
theorem vs_RX2_36 {X : Cx} (G : GC X) : VS X RX2 36 [(98, 0), (2, 31)] := vs_of (List.forall_mem_cons.mpr ⟨⟨iX2_here, (RX2, TX2, 5, tyX2), mtX2_here, moX2_here, rfl, (gw 248 (by decide +kernel) rfl), rfl, Or.inl ⟨(gw 246 (by decide +kernel) rfl), selw G (gwp (y := yX2_here) (n := 5) (by decide +kernel))⟩⟩, fun _ h => absurd h List.not_mem_nil⟩)
set_option maxRecDepth 20000 in
theorem vs_RX2_29 {X : Cx} (G : GC X) : VS X RX2 29 [(98, 0), (2, 32)] := vs_of (List.forall_mem_cons.mpr ⟨⟨iX2_readItem, (RX2, TX2, 5, tyX2), mtX2_readItem, moX2_readItem, rfl, (gw 244 (by decide +kernel) rfl), rfl, Or.inl ⟨(gw 242 (by decide +kernel) rfl), selw G (gwp (y := yX2_readItem) (n := 5) (by decide +kernel))⟩⟩, fun _ h => absurd h List.not_mem_nil⟩)
set_option maxRecDepth 20000 in
theorem vs_RX2_40 {X : Cx} (G : GC X) : VS X RX2 40 [(98, 1), (6, 84)] := vs_of (List.forall_mem_cons.mpr ⟨⟨iX7_at, (RX7, TX7, 3, tyX7), mtX7_at, moX7_at, rfl, (gw 251 (by decide +kernel) rfl), rfl, Or.inl ⟨(gw 250 (by decide +kernel) rfl), selw G (gw 252 (by decide +kernel) rfl)⟩⟩, fun _ h => absurd h List.not_mem_nil⟩)
set_option maxRecDepth 20000 in
theorem vs_RX2_59 {X : Cx} (G : GC X) : VS X RX2 59 [(98, 2), (1, 18)] := vs_of (List.forall_mem_cons.mpr ⟨⟨iX1_takes, (RX1, TX1, 1, tyX1), mtX1_takes, moX1_takes, rfl, (gw 285 (by decide +kernel) rfl), rfl, Or.inl ⟨(gw 284 (by decide +kernel) rfl), selw G (gw 286 (by decide +kernel) rfl)⟩⟩, fun _ h => absurd h List.not_mem_nil⟩)
set_option maxRecDepth 20000 in
theorem vs_RX2_56 {X : Cx} (G : GC X) : VS X RX2 56 [(98, 1), (2, 33)] := vs_of (List.forall_mem_cons.mpr ⟨⟨iX2_readNumber, (RX2, TX2, 5, tyX2), mtX2_readNumber, moX2_readNumber, rfl, (gw 274 (by decide +kernel) rfl), rfl, Or.inl ⟨(gw 272 (by decide +kernel) rfl), selw G (gwp (y := yX2_readNumber) (n := 5) (by decide +kernel))⟩⟩, fun _ h => absurd h List.not_mem_nil⟩)
set_option maxRecDepth 20000 in
theorem ss_RX2_53 {X : Cx} (G : GC X) : SS X RX2 53 [(98, 1), (0, 16)] ∧ ([(98, 1), (0, 16)].lookup 0 = some 1000 → GW (.methodLink RX2 53 arraycopyName) ∧ GW (.native arraycopyName) ∧ GW (.static arraycopyName) ∧ GW (.initialized "java/lang/System")) := ss_of mtX1_hasNumber moX1_hasNumber rfl (gw 270 (by decide +kernel) rfl) (Or.inl (gw 269 (by decide +kernel) rfl)) (by decide)
set_option maxRecDepth 20000 in
theorem vs_RX2_49 {X : Cx} (G : GC X) : VS X RX2 49 [(98, 1), (1, 17)] := vs_of (List.forall_mem_cons.mpr ⟨⟨iX1_isTold, (RX1, TX1, 1, tyX1), mtX1_isTold, moX1_isTold, rfl, (gw 265 (by decide +kernel) rfl), rfl, Or.inl ⟨(gw 264 (by decide +kernel) rfl), selw G (gw 266 (by decide +kernel) rfl)⟩⟩, fun _ h => absurd h List.not_mem_nil⟩)
set_option maxRecDepth 20000 in
theorem ss_RX2_46 {X : Cx} (G : GC X) : SS X RX2 46 [(98, 1), (0, 15)] ∧ ([(98, 1), (0, 15)].lookup 0 = some 1000 → GW (.methodLink RX2 46 arraycopyName) ∧ GW (.native arraycopyName) ∧ GW (.static arraycopyName) ∧ GW (.initialized "java/lang/System")) := ss_of mtX1_itemOf moX1_itemOf rfl (gw 260 (by decide +kernel) rfl) (Or.inl (gw 259 (by decide +kernel) rfl)) (by decide)
set_option maxRecDepth 20000 in
theorem vs_RX2_66 {X : Cx} (G : GC X) : VS X RX2 66 [(98, 0), (2, 35)] := vs_of (List.forall_mem_cons.mpr ⟨⟨iX2_readDigit, (RX2, TX2, 5, tyX2), mtX2_readDigit, moX2_readDigit, rfl, (gw 282 (by decide +kernel) rfl), rfl, Or.inl ⟨(gw 280 (by decide +kernel) rfl), selw G (gwp (y := yX2_readDigit) (n := 5) (by decide +kernel))⟩⟩, fun _ h => absurd h List.not_mem_nil⟩)
set_option maxRecDepth 20000 in
theorem vs_RX2_63 {X : Cx} (G : GC X) : VS X RX2 63 [(98, 0), (2, 34)] := vs_of (List.forall_mem_cons.mpr ⟨⟨iX2_isDigitHere, (RX2, TX2, 5, tyX2), mtX2_isDigitHere, moX2_isDigitHere, rfl, (gw 278 (by decide +kernel) rfl), rfl, Or.inl ⟨(gw 276 (by decide +kernel) rfl), selw G (gwp (y := yX2_isDigitHere) (n := 5) (by decide +kernel))⟩⟩, fun _ h => absurd h List.not_mem_nil⟩)
set_option maxRecDepth 20000 in
theorem fs_RX3_16 : FS RX3 16 [(3, 2)] := List.forall_mem_cons.mpr ⟨⟨(RX3, TX3, 3, tyX3), rfl, by decide, gw 496 (by decide +kernel) rfl⟩, fun _ h => absurd h List.not_mem_nil⟩
set_option maxRecDepth 20000 in
theorem fs_RX3_13 : FS RX3 13 [(3, 1)] := List.forall_mem_cons.mpr ⟨⟨(RX3, TX3, 3, tyX3), rfl, by decide, gw 494 (by decide +kernel) rfl⟩, fun _ h => absurd h List.not_mem_nil⟩
set_option maxRecDepth 20000 in
theorem fs_RX3_7 : FS RX3 7 [(3, 0)] := List.forall_mem_cons.mpr ⟨⟨(RX3, TX3, 3, tyX3), rfl, by decide, gw 492 (by decide +kernel) rfl⟩, fun _ h => absurd h List.not_mem_nil⟩
set_option maxRecDepth 20000 in
theorem po_RX3_1 {X : Cx} : PS X RX3 1 [(98, 0), (0, 1001)] := ps_obj ⟨(gw 491 (by decide +kernel) rfl), (gw 22 (by decide +kernel) rfl), (gw 23 (by decide +kernel) rfl)⟩
set_option maxRecDepth 20000 in
theorem ss_RX3_20 {X : Cx} (G : GC X) : SS X RX3 20 [(98, 2), (0, 137)] ∧ ([(98, 2), (0, 137)].lookup 0 = some 1000 → GW (.methodLink RX3 20 arraycopyName) ∧ GW (.native arraycopyName) ∧ GW (.static arraycopyName) ∧ GW (.initialized "java/lang/System")) := ss_of mtX11_isBelow moX11_isBelow rfl (gw 152 (by decide +kernel) rfl) (Or.inr (lnk G (host := "BurntPads") 520 (by decide +kernel))) (by decide)
set_option maxRecDepth 20000 in
theorem ss_RX4_17 {X : Cx} (G : GC X) : SS X RX4 17 [(98, 2), (0, 225)] ∧ ([(98, 2), (0, 225)].lookup 0 = some 1000 → GW (.methodLink RX4 17 arraycopyName) ∧ GW (.native arraycopyName) ∧ GW (.static arraycopyName) ∧ GW (.initialized "java/lang/System")) := ss_of mtJ9_min_7cf53 moJ9_min_7cf53 rfl (gw 334 (by decide +kernel) rfl) (Or.inl (gw 593 (by decide +kernel) rfl)) (by decide)
set_option maxRecDepth 20000 in
theorem vs_RX4_11 {X : Cx} (G : GC X) : VS X RX4 11 [(98, 0), (3, 37)] := vs_of (List.forall_mem_cons.mpr ⟨⟨iX3_size, (RX3, TX3, 3, tyX3), mtX3_size, moX3_size, rfl, (gw 513 (by decide +kernel) rfl), rfl, Or.inl ⟨(gw 592 (by decide +kernel) rfl), selw G (gw 514 (by decide +kernel) rfl)⟩⟩, fun _ h => absurd h List.not_mem_nil⟩)
set_option maxRecDepth 20000 in
theorem ss_RX4_27 {X : Cx} (G : GC X) : SS X RX4 27 [(98, 2), (0, 223)] ∧ ([(98, 2), (0, 223)].lookup 0 = some 1000 → GW (.methodLink RX4 27 arraycopyName) ∧ GW (.native arraycopyName) ∧ GW (.static arraycopyName) ∧ GW (.initialized "java/lang/System")) := ss_of mtJ9_floorMod_7cf53 moJ9_floorMod_7cf53 rfl (gw 172 (by decide +kernel) rfl) (Or.inl (gw 602 (by decide +kernel) rfl)) (by decide)
set_option maxRecDepth 20000 in
theorem vs_RX4_23 {X : Cx} (G : GC X) : VS X RX4 23 [(98, 1), (3, 38)] := vs_of (List.forall_mem_cons.mpr ⟨⟨iX3_groupAt, (RX3, TX3, 3, tyX3), mtX3_groupAt, moX3_groupAt, rfl, (gw 517 (by decide +kernel) rfl), rfl, Or.inl ⟨(gw 601 (by decide +kernel) rfl), selw G (gw 518 (by decide +kernel) rfl)⟩⟩, fun _ h => absurd h List.not_mem_nil⟩)
set_option maxRecDepth 20000 in
theorem vs_RX4_38 {X : Cx} (G : GC X) : VS X RX4 38 [(98, 1), (0, 9)] := vs_of (List.forall_mem_cons.mpr ⟨⟨iX0_pairsApart, (RX0, TX0, 5, tyX0), mtX0_pairsApart, moX0_pairsApart, rfl, (gw 604 (by decide +kernel) rfl), rfl, Or.inl ⟨(gw 603 (by decide +kernel) rfl), selw G (gw 605 (by decide +kernel) rfl)⟩⟩, fun _ h => absurd h List.not_mem_nil⟩)
set_option maxRecDepth 20000 in
theorem ss_RX4_34 {X : Cx} (G : GC X) : SS X RX4 34 [(98, 3), (0, 40)] ∧ ([(98, 3), (0, 40)].lookup 0 = some 1000 → GW (.methodLink RX4 34 arraycopyName) ∧ GW (.native arraycopyName) ∧ GW (.static arraycopyName) ∧ GW (.initialized "java/lang/System")) := ss_of mtX4_apart moX4_apart rfl (gw 599 (by decide +kernel) rfl) (Or.inl (gw 598 (by decide +kernel) rfl)) (by decide)
set_option maxRecDepth 20000 in
theorem ss_RX4_30 {X : Cx} (G : GC X) : SS X RX4 30 [(98, 2), (0, 39)] ∧ ([(98, 2), (0, 39)].lookup 0 = some 1000 → GW (.methodLink RX4 30 arraycopyName) ∧ GW (.native arraycopyName) ∧ GW (.static arraycopyName) ∧ GW (.initialized "java/lang/System")) := ss_of mtX4_places moX4_places rfl (gw 590 (by decide +kernel) rfl) (Or.inl (gw 597 (by decide +kernel) rfl)) (by decide)
set_option maxRecDepth 20000 in
theorem ss_RX4_53 {X : Cx} (G : GC X) : SS X RX4 53 [(98, 2), (0, 46)] ∧ ([(98, 2), (0, 46)].lookup 0 = some 1000 → GW (.methodLink RX4 53 arraycopyName) ∧ GW (.native arraycopyName) ∧ GW (.static arraycopyName) ∧ GW (.initialized "java/lang/System")) := ss_of mtX4_power moX4_power rfl (gw 636 (by decide +kernel) rfl) (Or.inl (gw 635 (by decide +kernel) rfl)) (by decide)
set_option maxRecDepth 20000 in
theorem ss_RX4_49 {X : Cx} (G : GC X) : SS X RX4 49 [(98, 3), (0, 45)] ∧ ([(98, 3), (0, 45)].lookup 0 = some 1000 → GW (.methodLink RX4 49 arraycopyName) ∧ GW (.native arraycopyName) ∧ GW (.static arraycopyName) ∧ GW (.initialized "java/lang/System")) := ss_of mtX4_rowsThatFit moX4_rowsThatFit rfl (gw 633 (by decide +kernel) rfl) (Or.inl (gw 632 (by decide +kernel) rfl)) (by decide)
set_option maxRecDepth 20000 in
theorem ss_RX4_45 {X : Cx} (G : GC X) : SS X RX4 45 [(98, 3), (0, 41)] ∧ ([(98, 3), (0, 41)].lookup 0 = some 1000 → GW (.methodLink RX4 45 arraycopyName) ∧ GW (.native arraycopyName) ∧ GW (.static arraycopyName) ∧ GW (.initialized "java/lang/System")) := ss_of mtX4_fitting moX4_fitting rfl (gw 595 (by decide +kernel) rfl) (Or.inl (gw 631 (by decide +kernel) rfl)) (by decide)
set_option maxRecDepth 20000 in
theorem ss_RX4_64 {X : Cx} (G : GC X) : SS X RX4 64 [(98, 2), (0, 47)] ∧ ([(98, 2), (0, 47)].lookup 0 = some 1000 → GW (.methodLink RX4 64 arraycopyName) ∧ GW (.native arraycopyName) ∧ GW (.static arraycopyName) ∧ GW (.initialized "java/lang/System")) := ss_of mtX4_greatestDivisor moX4_greatestDivisor rfl (gw 639 (by decide +kernel) rfl) (Or.inl (gw 638 (by decide +kernel) rfl)) (by decide)
set_option maxRecDepth 20000 in
theorem ss_RX4_60 {X : Cx} (G : GC X) : SS X RX4 60 [(98, 4), (0, 43)] ∧ ([(98, 4), (0, 43)].lookup 0 = some 1000 → GW (.methodLink RX4 60 arraycopyName) ∧ GW (.native arraycopyName) ∧ GW (.static arraycopyName) ∧ GW (.initialized "java/lang/System")) := ss_of mtX4_shareOf moX4_shareOf rfl (gw 628 (by decide +kernel) rfl) (Or.inl (gw 627 (by decide +kernel) rfl)) (by decide)
set_option maxRecDepth 20000 in
theorem vs_RX4_57 {X : Cx} (G : GC X) : VS X RX4 57 [(98, 0), (0, 10)] := vs_of (List.forall_mem_cons.mpr ⟨⟨iX0_spreadOfCodes, (RX0, TX0, 5, tyX0), mtX0_spreadOfCodes, moX0_spreadOfCodes, rfl, (gw 615 (by decide +kernel) rfl), rfl, Or.inl ⟨(gw 626 (by decide +kernel) rfl), selw G (gw 616 (by decide +kernel) rfl)⟩⟩, fun _ h => absurd h List.not_mem_nil⟩)
set_option maxRecDepth 20000 in
theorem vs_RX4_75 {X : Cx} (G : GC X) : VS X RX4 75 [(98, 2), (0, 11)] := vs_of (List.forall_mem_cons.mpr ⟨⟨iX0_partner, (RX0, TX0, 5, tyX0), mtX0_partner, moX0_partner, rfl, (gw 658 (by decide +kernel) rfl), rfl, Or.inl ⟨(gw 681 (by decide +kernel) rfl), selw G (gw 659 (by decide +kernel) rfl)⟩⟩, fun _ h => absurd h List.not_mem_nil⟩)
set_option maxRecDepth 20000 in
theorem vs_RX4_70 {X : Cx} (G : GC X) : VS X RX4 70 [(98, 1), (6, 84)] := vs_of (List.forall_mem_cons.mpr ⟨⟨iX7_at, (RX7, TX7, 3, tyX7), mtX7_at, moX7_at, rfl, (gw 251 (by decide +kernel) rfl), rfl, Or.inl ⟨(gw 680 (by decide +kernel) rfl), selw G (gw 252 (by decide +kernel) rfl)⟩⟩, fun _ h => absurd h List.not_mem_nil⟩)
set_option maxRecDepth 20000 in
theorem fs_RX5_18 : FS RX5 18 [(4, 2), (7, 2), (8, 2)] := List.forall_mem_cons.mpr ⟨⟨(RX5, TX5, 4, tyX5), rfl, by decide, gw 354 (by decide +kernel) rfl⟩, List.forall_mem_cons.mpr ⟨⟨(RX8, TX8, 4, tyX8), rfl, by decide, gw 354 (by decide +kernel) rfl⟩, List.forall_mem_cons.mpr ⟨⟨(RX9, TX9, 4, tyX9), rfl, by decide, gw 354 (by decide +kernel) rfl⟩, fun _ h => absurd h List.not_mem_nil⟩⟩⟩
set_option maxRecDepth 20000 in
theorem fs_RX5_15 : FS RX5 15 [(4, 1), (7, 1), (8, 1)] := List.forall_mem_cons.mpr ⟨⟨(RX5, TX5, 4, tyX5), rfl, by decide, gw 352 (by decide +kernel) rfl⟩, List.forall_mem_cons.mpr ⟨⟨(RX8, TX8, 4, tyX8), rfl, by decide, gw 352 (by decide +kernel) rfl⟩, List.forall_mem_cons.mpr ⟨⟨(RX9, TX9, 4, tyX9), rfl, by decide, gw 352 (by decide +kernel) rfl⟩, fun _ h => absurd h List.not_mem_nil⟩⟩⟩
set_option maxRecDepth 20000 in
theorem fs_RX5_9 : FS RX5 9 [(4, 0), (7, 0), (8, 0)] := List.forall_mem_cons.mpr ⟨⟨(RX5, TX5, 4, tyX5), rfl, by decide, gw 351 (by decide +kernel) rfl⟩, List.forall_mem_cons.mpr ⟨⟨(RX8, TX8, 4, tyX8), rfl, by decide, gw 351 (by decide +kernel) rfl⟩, List.forall_mem_cons.mpr ⟨⟨(RX9, TX9, 4, tyX9), rfl, by decide, gw 351 (by decide +kernel) rfl⟩, fun _ h => absurd h List.not_mem_nil⟩⟩⟩
set_option maxRecDepth 20000 in
theorem po_RX5_3 {X : Cx} : PS X RX5 3 [(98, 0), (0, 1001)] := ps_obj ⟨(gw 350 (by decide +kernel) rfl), (gw 22 (by decide +kernel) rfl), (gw 23 (by decide +kernel) rfl)⟩
set_option maxRecDepth 20000 in
theorem vs_RX5_22 {X : Cx} (G : GC X) : VS X RX5 22 [(98, 1), (4, 53), (7, 53), (8, 53)] := vs_of (List.forall_mem_cons.mpr ⟨⟨iX5_tellingOfPage, (RX5, TX5, 4, tyX5), mtX5_tellingOfPage, moX5_tellingOfPage, rfl, (gw 822 (by decide +kernel) rfl), rfl, Or.inl ⟨(gw 827 (by decide +kernel) rfl), selw G (gw 1277 (by decide +kernel) rfl)⟩⟩, List.forall_mem_cons.mpr ⟨⟨iX5_tellingOfPage, (RX8, TX8, 4, tyX8), mtX5_tellingOfPage, moX5_tellingOfPage, rfl, (gw 822 (by decide +kernel) rfl), rfl, Or.inl ⟨(gw 827 (by decide +kernel) rfl), selw G (gw 1278 (by decide +kernel) rfl)⟩⟩, List.forall_mem_cons.mpr ⟨⟨iX5_tellingOfPage, (RX9, TX9, 4, tyX9), mtX5_tellingOfPage, moX5_tellingOfPage, rfl, (gw 822 (by decide +kernel) rfl), rfl, Or.inl ⟨(gw 827 (by decide +kernel) rfl), selw G (gw 1279 (by decide +kernel) rfl)⟩⟩, fun _ h => absurd h List.not_mem_nil⟩⟩⟩)
set_option maxRecDepth 20000 in
theorem vs_RX5_32 {X : Cx} (G : GC X) : VS X RX5 32 [(98, 0), (4, 51), (7, 92), (8, 96)] := vs_of (List.forall_mem_cons.mpr ⟨⟨iX5_usable, (RX5, TX5, 4, tyX5), mtX5_usable, moX5_usable, rfl, (gw 411 (by decide +kernel) rfl), rfl, Or.inl ⟨(gw 825 (by decide +kernel) rfl), selw G (gw 412 (by decide +kernel) rfl)⟩⟩, List.forall_mem_cons.mpr ⟨⟨iX8_usable, (RX8, TX8, 4, tyX8), mtX8_usable, moX8_usable, rfl, (gw 415 (by decide +kernel) rfl), rfl, Or.inr ⟨⟨"BurntPads$Page", "usable", "()I"⟩, "BurntPads$Page", _, _, _, (gw 825 (by decide +kernel) rfl), (gw 413 (by decide +kernel) rfl), (gw 411 (by decide +kernel) rfl), moX5_usable.1, (gw 414 (by decide +kernel) rfl), ⟨by decide +kernel, by decide +kernel⟩, rfl⟩⟩, List.forall_mem_cons.mpr ⟨⟨iX9_usable, (RX9, TX9, 4, tyX9), mtX9_usable, moX9_usable, rfl, (gw 424 (by decide +kernel) rfl), rfl, Or.inr ⟨⟨"BurntPads$Page", "usable", "()I"⟩, "BurntPads$Page", _, _, _, (gw 825 (by decide +kernel) rfl), (gw 413 (by decide +kernel) rfl), (gw 411 (by decide +kernel) rfl), moX5_usable.1, (gw 423 (by decide +kernel) rfl), ⟨by decide +kernel, by decide +kernel⟩, rfl⟩⟩, fun _ h => absurd h List.not_mem_nil⟩⟩⟩)
set_option maxRecDepth 20000 in
theorem vs_RX5_26 {X : Cx} (G : GC X) : VS X RX5 26 [(98, 1), (9, 100)] := vs_of (List.forall_mem_cons.mpr ⟨⟨iX10_leave, (RX10, TX10, 1, tyX10), mtX10_leave, moX10_leave, rfl, (gw 809 (by decide +kernel) rfl), rfl, Or.inl ⟨(gw 824 (by decide +kernel) rfl), selw G (gw 810 (by decide +kernel) rfl)⟩⟩, fun _ h => absurd h List.not_mem_nil⟩)
set_option maxRecDepth 20000 in
theorem ss_RX5_36 {X : Cx} (G : GC X) : SS X RX5 36 [(98, 2), (0, 137)] ∧ ([(98, 2), (0, 137)].lookup 0 = some 1000 → GW (.methodLink RX5 36 arraycopyName) ∧ GW (.native arraycopyName) ∧ GW (.static arraycopyName) ∧ GW (.initialized "java/lang/System")) := ss_of mtX11_isBelow moX11_isBelow rfl (gw 152 (by decide +kernel) rfl) (Or.inr (lnk G (host := "BurntPads") 445 (by decide +kernel))) (by decide)
set_option maxRecDepth 20000 in
theorem fs_RX5_40 : FS RX5 40 [(4, 3), (7, 3), (8, 3)] := List.forall_mem_cons.mpr ⟨⟨(RX5, TX5, 4, tyX5), rfl, by decide, gw 356 (by decide +kernel) rfl⟩, List.forall_mem_cons.mpr ⟨⟨(RX8, TX8, 4, tyX8), rfl, by decide, gw 356 (by decide +kernel) rfl⟩, List.forall_mem_cons.mpr ⟨⟨(RX9, TX9, 4, tyX9), rfl, by decide, gw 356 (by decide +kernel) rfl⟩, fun _ h => absurd h List.not_mem_nil⟩⟩⟩
set_option maxRecDepth 20000 in
theorem vs_RX5_43 {X : Cx} (G : GC X) : VS X RX5 43 [(98, 1), (4, 56), (7, 56), (8, 56)] := vs_of (List.forall_mem_cons.mpr ⟨⟨iX5_groupAt, (RX5, TX5, 4, tyX5), mtX5_groupAt, moX5_groupAt, rfl, (gw 439 (by decide +kernel) rfl), rfl, Or.inl ⟨(gw 486 (by decide +kernel) rfl), selw G (gw 440 (by decide +kernel) rfl)⟩⟩, List.forall_mem_cons.mpr ⟨⟨iX5_groupAt, (RX8, TX8, 4, tyX8), mtX5_groupAt, moX5_groupAt, rfl, (gw 439 (by decide +kernel) rfl), rfl, Or.inl ⟨(gw 486 (by decide +kernel) rfl), selw G (gw 442 (by decide +kernel) rfl)⟩⟩, List.forall_mem_cons.mpr ⟨⟨iX5_groupAt, (RX9, TX9, 4, tyX9), mtX5_groupAt, moX5_groupAt, rfl, (gw 439 (by decide +kernel) rfl), rfl, Or.inl ⟨(gw 486 (by decide +kernel) rfl), selw G (gw 443 (by decide +kernel) rfl)⟩⟩, fun _ h => absurd h List.not_mem_nil⟩⟩⟩)
set_option maxRecDepth 20000 in
theorem ss_RX5_50 {X : Cx} (G : GC X) : SS X RX5 50 [(98, 2), (0, 223)] ∧ ([(98, 2), (0, 223)].lookup 0 = some 1000 → GW (.methodLink RX5 50 arraycopyName) ∧ GW (.native arraycopyName) ∧ GW (.static arraycopyName) ∧ GW (.initialized "java/lang/System")) := ss_of mtJ9_floorMod_7cf53 moJ9_floorMod_7cf53 rfl (gw 172 (by decide +kernel) rfl) (Or.inl (gw 537 (by decide +kernel) rfl)) (by decide)
set_option maxRecDepth 20000 in
theorem vs_RX5_47 {X : Cx} (G : GC X) : VS X RX5 47 [(98, 1), (3, 38)] := vs_of (List.forall_mem_cons.mpr ⟨⟨iX3_groupAt, (RX3, TX3, 3, tyX3), mtX3_groupAt, moX3_groupAt, rfl, (gw 517 (by decide +kernel) rfl), rfl, Or.inl ⟨(gw 536 (by decide +kernel) rfl), selw G (gw 518 (by decide +kernel) rfl)⟩⟩, fun _ h => absurd h List.not_mem_nil⟩)
set_option maxRecDepth 20000 in
theorem vs_RX5_56 {X : Cx} (G : GC X) : VS X RX5 56 [(98, 1), (4, 60), (7, 60), (8, 60)] := vs_of (List.forall_mem_cons.mpr ⟨⟨iX5_addendOf, (RX5, TX5, 4, tyX5), mtX5_addendOf, moX5_addendOf, rfl, (gw 703 (by decide +kernel) rfl), rfl, Or.inl ⟨(gw 701 (by decide +kernel) rfl), selw G (gwp (y := yX5_addendOf) (n := 4) (by decide +kernel))⟩⟩, List.forall_mem_cons.mpr ⟨⟨iX5_addendOf, (RX8, TX8, 4, tyX8), mtX5_addendOf, moX5_addendOf, rfl, (gw 703 (by decide +kernel) rfl), rfl, Or.inl ⟨(gw 701 (by decide +kernel) rfl), selsub G (n := 4) (n2 := 4) ⟨by decide +kernel, by decide +kernel⟩ (List.mem_append_right _ (List.mem_of_getElem? (i := 343) (by decide +kernel))) (List.mem_append_right _ (List.mem_of_getElem? (i := 702) (by decide +kernel))) (List.mem_append_right _ (List.mem_of_getElem? (i := 703) (by decide +kernel))) (List.mem_append_right _ (List.mem_of_getElem? (i := 377) (by decide +kernel)))⟩⟩, List.forall_mem_cons.mpr ⟨⟨iX5_addendOf, (RX9, TX9, 4, tyX9), mtX5_addendOf, moX5_addendOf, rfl, (gw 703 (by decide +kernel) rfl), rfl, Or.inl ⟨(gw 701 (by decide +kernel) rfl), selsub G (n := 4) (n2 := 4) ⟨by decide +kernel, by decide +kernel⟩ (List.mem_append_right _ (List.mem_of_getElem? (i := 367) (by decide +kernel))) (List.mem_append_right _ (List.mem_of_getElem? (i := 702) (by decide +kernel))) (List.mem_append_right _ (List.mem_of_getElem? (i := 703) (by decide +kernel))) (List.mem_append_right _ (List.mem_of_getElem? (i := 377) (by decide +kernel)))⟩⟩, fun _ h => absurd h List.not_mem_nil⟩⟩⟩)
set_option maxRecDepth 20000 in
theorem vs_RX5_59 {X : Cx} (G : GC X) : VS X RX5 59 [(98, 0), (4, 62), (7, 62), (8, 62)] := vs_of (List.forall_mem_cons.mpr ⟨⟨iX5_leastFactor, (RX5, TX5, 4, tyX5), mtX5_leastFactor, moX5_leastFactor, rfl, (gw 706 (by decide +kernel) rfl), rfl, Or.inl ⟨(gw 719 (by decide +kernel) rfl), selw G (gw 707 (by decide +kernel) rfl)⟩⟩, List.forall_mem_cons.mpr ⟨⟨iX5_leastFactor, (RX8, TX8, 4, tyX8), mtX5_leastFactor, moX5_leastFactor, rfl, (gw 706 (by decide +kernel) rfl), rfl, Or.inl ⟨(gw 719 (by decide +kernel) rfl), selw G (gw 709 (by decide +kernel) rfl)⟩⟩, List.forall_mem_cons.mpr ⟨⟨iX5_leastFactor, (RX9, TX9, 4, tyX9), mtX5_leastFactor, moX5_leastFactor, rfl, (gw 706 (by decide +kernel) rfl), rfl, Or.inl ⟨(gw 719 (by decide +kernel) rfl), selw G (gw 710 (by decide +kernel) rfl)⟩⟩, fun _ h => absurd h List.not_mem_nil⟩⟩⟩)
set_option maxRecDepth 20000 in
theorem fs_RX6_26 : FS RX6 26 [(5, 4)] := List.forall_mem_cons.mpr ⟨⟨(RX6, TX6, 6, tyX6), rfl, by decide, gw 59 (by decide +kernel) rfl⟩, fun _ h => absurd h List.not_mem_nil⟩
set_option maxRecDepth 20000 in
theorem fs_RX6_23 : FS RX6 23 [(5, 3)] := List.forall_mem_cons.mpr ⟨⟨(RX6, TX6, 6, tyX6), rfl, by decide, gw 58 (by decide +kernel) rfl⟩, fun _ h => absurd h List.not_mem_nil⟩
set_option maxRecDepth 20000 in
theorem fs_RX6_20 : FS RX6 20 [(5, 2)] := List.forall_mem_cons.mpr ⟨⟨(RX6, TX6, 6, tyX6), rfl, by decide, gw 57 (by decide +kernel) rfl⟩, fun _ h => absurd h List.not_mem_nil⟩
set_option maxRecDepth 20000 in
theorem fs_RX6_17 : FS RX6 17 [(5, 1)] := List.forall_mem_cons.mpr ⟨⟨(RX6, TX6, 6, tyX6), rfl, by decide, gw 56 (by decide +kernel) rfl⟩, fun _ h => absurd h List.not_mem_nil⟩
set_option maxRecDepth 20000 in
theorem fs_RX6_9 : FS RX6 9 [(5, 0)] := List.forall_mem_cons.mpr ⟨⟨(RX6, TX6, 6, tyX6), rfl, by decide, gw 55 (by decide +kernel) rfl⟩, fun _ h => absurd h List.not_mem_nil⟩
set_option maxRecDepth 20000 in
theorem po_RX6_3 {X : Cx} : PS X RX6 3 [(98, 0), (0, 1001)] := ps_obj ⟨(gw 52 (by decide +kernel) rfl), (gw 22 (by decide +kernel) rfl), (gw 23 (by decide +kernel) rfl)⟩
set_option maxRecDepth 20000 in
theorem fs_RX6_29 : FS RX6 29 [(5, 5)] := List.forall_mem_cons.mpr ⟨⟨(RX6, TX6, 6, tyX6), rfl, by decide, gw 60 (by decide +kernel) rfl⟩, fun _ h => absurd h List.not_mem_nil⟩
set_option maxRecDepth 20000 in
theorem ss_RX6_33 {X : Cx} (G : GC X) : SS X RX6 33 [(98, 2), (0, 137)] ∧ ([(98, 2), (0, 137)].lookup 0 = some 1000 → GW (.methodLink RX6 33 arraycopyName) ∧ GW (.native arraycopyName) ∧ GW (.static arraycopyName) ∧ GW (.initialized "java/lang/System")) := ss_of mtX11_isBelow moX11_isBelow rfl (gw 152 (by decide +kernel) rfl) (Or.inr (lnk G (host := "BurntPads") 547 (by decide +kernel))) (by decide)
set_option maxRecDepth 20000 in
theorem vs_RX6_37 {X : Cx} (G : GC X) : VS X RX6 37 [(98, 1), (5, 72)] := vs_of (List.forall_mem_cons.mpr ⟨⟨iX6_wantedThrough, (RX6, TX6, 6, tyX6), mtX6_wantedThrough, moX6_wantedThrough, rfl, (gw 578 (by decide +kernel) rfl), rfl, Or.inl ⟨(gw 576 (by decide +kernel) rfl), selw G (gwp (y := yX6_wantedThrough) (n := 6) (by decide +kernel))⟩⟩, fun _ h => absurd h List.not_mem_nil⟩)
set_option maxRecDepth 20000 in
theorem ss_RX6_41 {X : Cx} (G : GC X) : SS X RX6 41 [(98, 2), (0, 224)] ∧ ([(98, 2), (0, 224)].lookup 0 = some 1000 → GW (.methodLink RX6 41 arraycopyName) ∧ GW (.native arraycopyName) ∧ GW (.static arraycopyName) ∧ GW (.initialized "java/lang/System")) := ss_of mtJ9_max_7cf53 moJ9_max_7cf53 rfl (gw 337 (by decide +kernel) rfl) (Or.inl (gw 580 (by decide +kernel) rfl)) (by decide)
set_option maxRecDepth 20000 in
theorem fs_RX7_15 : FS RX7 15 [(6, 1)] := List.forall_mem_cons.mpr ⟨⟨(RX7, TX7, 3, tyX7), rfl, by decide, gw 107 (by decide +kernel) rfl⟩, fun _ h => absurd h List.not_mem_nil⟩
set_option maxRecDepth 20000 in
theorem fs_RX7_9 : FS RX7 9 [(6, 0)] := List.forall_mem_cons.mpr ⟨⟨(RX7, TX7, 3, tyX7), rfl, by decide, gw 106 (by decide +kernel) rfl⟩, fun _ h => absurd h List.not_mem_nil⟩
set_option maxRecDepth 20000 in
theorem po_RX7_3 {X : Cx} : PS X RX7 3 [(98, 0), (0, 1001)] := ps_obj ⟨(gw 105 (by decide +kernel) rfl), (gw 22 (by decide +kernel) rfl), (gw 23 (by decide +kernel) rfl)⟩
set_option maxRecDepth 20000 in
theorem fs_RX7_19 : FS RX7 19 [(6, 2)] := List.forall_mem_cons.mpr ⟨⟨(RX7, TX7, 3, tyX7), rfl, by decide, gw 108 (by decide +kernel) rfl⟩, fun _ h => absurd h List.not_mem_nil⟩
set_option maxRecDepth 20000 in
theorem ss_RX7_28 {X : Cx} (G : GC X) : SS X RX7 28 [(98, 2), (0, 224)] ∧ ([(98, 2), (0, 224)].lookup 0 = some 1000 → GW (.methodLink RX7 28 arraycopyName) ∧ GW (.native arraycopyName) ∧ GW (.static arraycopyName) ∧ GW (.initialized "java/lang/System")) := ss_of mtJ9_max_7cf53 moJ9_max_7cf53 rfl (gw 337 (by decide +kernel) rfl) (Or.inl (gw 336 (by decide +kernel) rfl)) (by decide)
set_option maxRecDepth 20000 in
theorem ss_RX7_22 {X : Cx} (G : GC X) : SS X RX7 22 [(98, 2), (0, 225)] ∧ ([(98, 2), (0, 225)].lookup 0 = some 1000 → GW (.methodLink RX7 22 arraycopyName) ∧ GW (.native arraycopyName) ∧ GW (.static arraycopyName) ∧ GW (.initialized "java/lang/System")) := ss_of mtJ9_min_7cf53 moJ9_min_7cf53 rfl (gw 334 (by decide +kernel) rfl) (Or.inl (gw 333 (by decide +kernel) rfl)) (by decide)
set_option maxRecDepth 20000 in
theorem ss_RX7_31 {X : Cx} (G : GC X) : SS X RX7 31 [(98, 2), (0, 137)] ∧ ([(98, 2), (0, 137)].lookup 0 = some 1000 → GW (.methodLink RX7 31 arraycopyName) ∧ GW (.native arraycopyName) ∧ GW (.static arraycopyName) ∧ GW (.initialized "java/lang/System")) := ss_of mtX11_isBelow moX11_isBelow rfl (gw 152 (by decide +kernel) rfl) (Or.inr (lnk G (host := "BurntPads") 258 (by decide +kernel))) (by decide)
set_option maxRecDepth 20000 in
theorem vs_RX7_35 {X : Cx} (G : GC X) : VS X RX7 35 [(98, 0), (6, 75)] := vs_of (List.forall_mem_cons.mpr ⟨⟨iX7_isNothing, (RX7, TX7, 3, tyX7), mtX7_isNothing, moX7_isNothing, rfl, (gw 203 (by decide +kernel) rfl), rfl, Or.inl ⟨(gw 202 (by decide +kernel) rfl), selw G (gw 204 (by decide +kernel) rfl)⟩⟩, fun _ h => absurd h List.not_mem_nil⟩)
set_option maxRecDepth 20000 in
theorem vs_RX7_43 {X : Cx} (G : GC X) : VS X RX7 43 [(98, 2), (6, 80)] := vs_of (List.forall_mem_cons.mpr ⟨⟨iX7_hasCells, (RX7, TX7, 3, tyX7), mtX7_hasCells, moX7_hasCells, rfl, (gw 207 (by decide +kernel) rfl), rfl, Or.inl ⟨(gw 206 (by decide +kernel) rfl), selw G (gw 208 (by decide +kernel) rfl)⟩⟩, fun _ h => absurd h List.not_mem_nil⟩)
set_option maxRecDepth 20000 in
theorem vs_RX7_39 {X : Cx} (G : GC X) : VS X RX7 39 [(98, 1), (6, 81)] := vs_of (List.forall_mem_cons.mpr ⟨⟨iX7_faultOfLane, (RX7, TX7, 3, tyX7), mtX7_faultOfLane, moX7_faultOfLane, rfl, (gw 200 (by decide +kernel) rfl), rfl, Or.inl ⟨(gw 198 (by decide +kernel) rfl), selw G (gwp (y := yX7_faultOfLane) (n := 3) (by decide +kernel))⟩⟩, fun _ h => absurd h List.not_mem_nil⟩)
set_option maxRecDepth 20000 in
theorem vs_RX7_46 {X : Cx} (G : GC X) : VS X RX7 46 [(98, 1), (6, 79)] := vs_of (List.forall_mem_cons.mpr ⟨⟨iX7_hasCell, (RX7, TX7, 3, tyX7), mtX7_hasCell, moX7_hasCell, rfl, (gw 255 (by decide +kernel) rfl), rfl, Or.inl ⟨(gw 254 (by decide +kernel) rfl), selw G (gw 256 (by decide +kernel) rfl)⟩⟩, fun _ h => absurd h List.not_mem_nil⟩)
set_option maxRecDepth 20000 in
theorem vs_RX7_50 {X : Cx} (G : GC X) : VS X RX7 50 [(98, 1), (6, 86)] := vs_of (List.forall_mem_cons.mpr ⟨⟨iX7_cutToLane, (RX7, TX7, 3, tyX7), mtX7_cutToLane, moX7_cutToLane, rfl, (gw 770 (by decide +kernel) rfl), rfl, Or.inl ⟨(gw 768 (by decide +kernel) rfl), selw G (gwp (y := yX7_cutToLane) (n := 3) (by decide +kernel))⟩⟩, fun _ h => absurd h List.not_mem_nil⟩)
set_option maxRecDepth 20000 in
theorem vs_RX7_59 {X : Cx} (G : GC X) : VS X RX7 59 [(98, 1), (6, 84)] := vs_of (List.forall_mem_cons.mpr ⟨⟨iX7_at, (RX7, TX7, 3, tyX7), mtX7_at, moX7_at, rfl, (gw 251 (by decide +kernel) rfl), rfl, Or.inl ⟨(gw 328 (by decide +kernel) rfl), selw G (gw 252 (by decide +kernel) rfl)⟩⟩, fun _ h => absurd h List.not_mem_nil⟩)
set_option maxRecDepth 20000 in
theorem ps_RX8_1 {X : Cx} (G : GC X) : PS X RX8 1 [(98, 3), (0, 49), (204, 0), (207, 0), (208, 0)] := ps_init mtX5_init moX5_init rfl (gw 348 (by decide +kernel) rfl) rfl rfl (Or.inl (gw 347 (by decide +kernel) rfl)) (by decide)
set_option maxRecDepth 20000 in
theorem ss_RX8_13 {X : Cx} (G : GC X) : SS X RX8 13 [(98, 2), (0, 224)] ∧ ([(98, 2), (0, 224)].lookup 0 = some 1000 → GW (.methodLink RX8 13 arraycopyName) ∧ GW (.native arraycopyName) ∧ GW (.static arraycopyName) ∧ GW (.initialized "java/lang/System")) := ss_of mtJ9_max_7cf53 moJ9_max_7cf53 rfl (gw 337 (by decide +kernel) rfl) (Or.inl (gw 422 (by decide +kernel) rfl)) (by decide)
set_option maxRecDepth 20000 in
theorem vs_RX8_7 {X : Cx} (G : GC X) : VS X RX8 7 [(98, 0), (7, 55), (8, 55)] := vs_of (List.forall_mem_cons.mpr ⟨⟨iX5_size, (RX8, TX8, 4, tyX8), mtX5_size, moX5_size, rfl, (gw 404 (by decide +kernel) rfl), rfl, Or.inr ⟨⟨"BurntPads$ShortPage", "size", "()I"⟩, "BurntPads$Page", _, _, _, (gw 417 (by decide +kernel) rfl), (gw 418 (by decide +kernel) rfl), (gw 404 (by decide +kernel) rfl), moX5_size.1, (gw 420 (by decide +kernel) rfl), ⟨by decide +kernel, by decide +kernel⟩, rfl⟩⟩, List.forall_mem_cons.mpr ⟨⟨iX5_size, (RX9, TX9, 4, tyX9), mtX5_size, moX5_size, rfl, (gw 404 (by decide +kernel) rfl), rfl, Or.inr ⟨⟨"BurntPads$ShortPage", "size", "()I"⟩, "BurntPads$Page", _, _, _, (gw 417 (by decide +kernel) rfl), (gw 418 (by decide +kernel) rfl), (gw 404 (by decide +kernel) rfl), moX5_size.1, (gw 421 (by decide +kernel) rfl), ⟨by decide +kernel, by decide +kernel⟩, rfl⟩⟩, fun _ h => absurd h List.not_mem_nil⟩⟩)
set_option maxRecDepth 20000 in
theorem ps_RX8_25 {X : Cx} (G : GC X) : PS X RX8 25 [(98, 1), (0, 52), (204, 0), (207, 0), (208, 0)] := ps_super mtX5_telling moX5_telling rfl (gw 802 (by decide +kernel) rfl) (by decide +kernel) (gw 812 (by decide +kernel) rfl) (gw 804 (by decide +kernel) rfl) (gw 365 (by decide +kernel) rfl) (by decide) (by decide)
set_option maxRecDepth 20000 in
theorem vs_RX8_19 {X : Cx} (G : GC X) : VS X RX8 19 [(98, 1), (9, 100)] := vs_of (List.forall_mem_cons.mpr ⟨⟨iX10_leave, (RX10, TX10, 1, tyX10), mtX10_leave, moX10_leave, rfl, (gw 809 (by decide +kernel) rfl), rfl, Or.inl ⟨(gw 808 (by decide +kernel) rfl), selw G (gw 810 (by decide +kernel) rfl)⟩⟩, fun _ h => absurd h List.not_mem_nil⟩)
set_option maxRecDepth 20000 in
theorem ps_RX9_1 {X : Cx} (G : GC X) : PS X RX9 1 [(98, 3), (0, 90), (207, 0), (208, 0)] := ps_init mtX8_init moX8_init rfl (gw 345 (by decide +kernel) rfl) rfl rfl (Or.inl (gw 371 (by decide +kernel) rfl)) (by decide)
set_option maxRecDepth 20000 in
theorem ss_RX9_13 {X : Cx} (G : GC X) : SS X RX9 13 [(98, 2), (0, 224)] ∧ ([(98, 2), (0, 224)].lookup 0 = some 1000 → GW (.methodLink RX9 13 arraycopyName) ∧ GW (.native arraycopyName) ∧ GW (.static arraycopyName) ∧ GW (.initialized "java/lang/System")) := ss_of mtJ9_max_7cf53 moJ9_max_7cf53 rfl (gw 337 (by decide +kernel) rfl) (Or.inl (gw 429 (by decide +kernel) rfl)) (by decide)
set_option maxRecDepth 20000 in
theorem vs_RX9_7 {X : Cx} (G : GC X) : VS X RX9 7 [(98, 0), (8, 55)] := vs_of (List.forall_mem_cons.mpr ⟨⟨iX5_size, (RX9, TX9, 4, tyX9), mtX5_size, moX5_size, rfl, (gw 404 (by decide +kernel) rfl), rfl, Or.inr ⟨⟨"BurntPads$TornPage", "size", "()I"⟩, "BurntPads$Page", _, _, _, (gw 426 (by decide +kernel) rfl), (gw 427 (by decide +kernel) rfl), (gw 404 (by decide +kernel) rfl), moX5_size.1, (gw 428 (by decide +kernel) rfl), ⟨by decide +kernel, by decide +kernel⟩, rfl⟩⟩, fun _ h => absurd h List.not_mem_nil⟩)
set_option maxRecDepth 20000 in
theorem vs_RX9_29 {X : Cx} (G : GC X) : VS X RX9 29 [(98, 1), (8, 53)] := vs_of (List.forall_mem_cons.mpr ⟨⟨iX5_tellingOfPage, (RX9, TX9, 4, tyX9), mtX5_tellingOfPage, moX5_tellingOfPage, rfl, (gw 822 (by decide +kernel) rfl), rfl, Or.inr ⟨⟨"BurntPads$TornPage", "tellingOfPage", "(LBurntPads$Trace;)I"⟩, "BurntPads$Page", _, _, _, (gw 818 (by decide +kernel) rfl), (gw 819 (by decide +kernel) rfl), (gw 822 (by decide +kernel) rfl), moX5_tellingOfPage.1, (gw 821 (by decide +kernel) rfl), ⟨by decide +kernel, by decide +kernel⟩, rfl⟩⟩, fun _ h => absurd h List.not_mem_nil⟩)
set_option maxRecDepth 20000 in
theorem ps_RX9_25 {X : Cx} (G : GC X) : PS X RX9 25 [(98, 1), (0, 93), (207, 0), (208, 0)] := ps_super mtX8_telling moX8_telling rfl (gw 806 (by decide +kernel) rfl) (by decide +kernel) (gw 817 (by decide +kernel) rfl) (gw 1275 (by decide +kernel) rfl) (gw 376 (by decide +kernel) rfl) (by decide) (by decide)
set_option maxRecDepth 20000 in
theorem vs_RX9_19 {X : Cx} (G : GC X) : VS X RX9 19 [(98, 1), (9, 100)] := vs_of (List.forall_mem_cons.mpr ⟨⟨iX10_leave, (RX10, TX10, 1, tyX10), mtX10_leave, moX10_leave, rfl, (gw 809 (by decide +kernel) rfl), rfl, Or.inl ⟨(gw 816 (by decide +kernel) rfl), selw G (gw 810 (by decide +kernel) rfl)⟩⟩, fun _ h => absurd h List.not_mem_nil⟩)
set_option maxRecDepth 20000 in
theorem po_RX10_1 {X : Cx} : PS X RX10 1 [(98, 0), (0, 1001)] := ps_obj ⟨(gw 79 (by decide +kernel) rfl), (gw 22 (by decide +kernel) rfl), (gw 23 (by decide +kernel) rfl)⟩
set_option maxRecDepth 20000 in
theorem fs_RX10_7 : FS RX10 7 [(9, 0)] := List.forall_mem_cons.mpr ⟨⟨(RX10, TX10, 1, tyX10), rfl, by decide, gw 80 (by decide +kernel) rfl⟩, fun _ h => absurd h List.not_mem_nil⟩
set_option maxRecDepth 20000 in
theorem ps_RX11_57 {X : Cx} (G : GC X) : PS X RX11 57 [(98, 0), (0, 74), (206, 0)] := ps_init mtX7_init moX7_init rfl (gw 103 (by decide +kernel) rfl) rfl rfl (Or.inr (lnk G (host := "BurntPads") 102 (by decide +kernel))) (by decide)
set_option maxRecDepth 20000 in
theorem fs_RX11_46 : FS RX11 46 [(10, 5)] := List.forall_mem_cons.mpr ⟨⟨(RX11, TX11, 10, tyX11), rfl, by decide, gw 121 (by decide +kernel) rfl⟩, fun _ h => absurd h List.not_mem_nil⟩
set_option maxRecDepth 20000 in
theorem fs_RX11_53 : FS RX11 53 [(10, 6)] := List.forall_mem_cons.mpr ⟨⟨(RX11, TX11, 10, tyX11), rfl, by decide, gw 122 (by decide +kernel) rfl⟩, fun _ h => absurd h List.not_mem_nil⟩
set_option maxRecDepth 20000 in
theorem ps_RX11_52 {X : Cx} (G : GC X) : PS X RX11 52 [(98, 0), (0, 14), (201, 0)] := ps_init mtX1_init moX1_init rfl (gw 94 (by decide +kernel) rfl) rfl rfl (Or.inr (lnk G (host := "BurntPads") 93 (by decide +kernel))) (by decide)
set_option maxRecDepth 20000 in
theorem fs_RX11_40 : FS RX11 40 [(10, 4)] := List.forall_mem_cons.mpr ⟨⟨(RX11, TX11, 10, tyX11), rfl, by decide, gw 120 (by decide +kernel) rfl⟩, fun _ h => absurd h List.not_mem_nil⟩
set_option maxRecDepth 20000 in
theorem fs_RX11_34 : FS RX11 34 [(10, 3)] := List.forall_mem_cons.mpr ⟨⟨(RX11, TX11, 10, tyX11), rfl, by decide, gw 119 (by decide +kernel) rfl⟩, fun _ h => absurd h List.not_mem_nil⟩
set_option maxRecDepth 20000 in
theorem fs_RX11_28 : FS RX11 28 [(10, 2)] := List.forall_mem_cons.mpr ⟨⟨(RX11, TX11, 10, tyX11), rfl, by decide, gw 118 (by decide +kernel) rfl⟩, fun _ h => absurd h List.not_mem_nil⟩
set_option maxRecDepth 20000 in
theorem ps_RX11_27 {X : Cx} (G : GC X) : PS X RX11 27 [(98, 0), (0, 99), (209, 0)] := ps_init mtX10_init moX10_init rfl (gw 77 (by decide +kernel) rfl) rfl rfl (Or.inr (lnk G (host := "BurntPads") 76 (by decide +kernel))) (by decide)
set_option maxRecDepth 20000 in
theorem fs_RX11_21 : FS RX11 21 [(10, 1)] := List.forall_mem_cons.mpr ⟨⟨(RX11, TX11, 10, tyX11), rfl, by decide, gw 117 (by decide +kernel) rfl⟩, fun _ h => absurd h List.not_mem_nil⟩
set_option maxRecDepth 20000 in
theorem ps_RX11_20 {X : Cx} (G : GC X) : PS X RX11 20 [(98, 0), (0, 66), (205, 0)] := ps_init mtX6_init moX6_init rfl (gw 50 (by decide +kernel) rfl) rfl rfl (Or.inr (lnk G (host := "BurntPads") 49 (by decide +kernel))) (by decide)
set_option maxRecDepth 20000 in
theorem fs_RX11_12 : FS RX11 12 [(10, 0)] := List.forall_mem_cons.mpr ⟨⟨(RX11, TX11, 10, tyX11), rfl, by decide, gw 116 (by decide +kernel) rfl⟩, fun _ h => absurd h List.not_mem_nil⟩
set_option maxRecDepth 20000 in
theorem ps_RX11_11 {X : Cx} (G : GC X) : PS X RX11 11 [(98, 0), (0, 0), (200, 0)] := ps_init mtX0_init moX0_init rfl (gw 27 (by decide +kernel) rfl) rfl rfl (Or.inl (gw 26 (by decide +kernel) rfl)) (by decide)
set_option maxRecDepth 20000 in
theorem po_RX11_3 {X : Cx} : PS X RX11 3 [(98, 0), (0, 1001)] := ps_obj ⟨(gw 21 (by decide +kernel) rfl), (gw 22 (by decide +kernel) rfl), (gw 23 (by decide +kernel) rfl)⟩
set_option maxRecDepth 20000 in
theorem vs_RX11_69 {X : Cx} (G : GC X) : VS X RX11 69 [(98, 2), (0, 5)] := vs_of (List.forall_mem_cons.mpr ⟨⟨iX0_giveCode, (RX0, TX0, 5, tyX0), mtX0_giveCode, moX0_giveCode, rfl, (gw 164 (by decide +kernel) rfl), rfl, Or.inl ⟨(gw 163 (by decide +kernel) rfl), selw G (gw 165 (by decide +kernel) rfl)⟩⟩, fun _ h => absurd h List.not_mem_nil⟩)
set_option maxRecDepth 20000 in
theorem vs_RX11_66 {X : Cx} (G : GC X) : VS X RX11 66 [(98, 1), (0, 1)] := vs_of (List.forall_mem_cons.mpr ⟨⟨iX0_codeOf, (RX0, TX0, 5, tyX0), mtX0_codeOf, moX0_codeOf, rfl, (gw 160 (by decide +kernel) rfl), rfl, Or.inl ⟨(gw 159 (by decide +kernel) rfl), selw G (gw 161 (by decide +kernel) rfl)⟩⟩, fun _ h => absurd h List.not_mem_nil⟩)
set_option maxRecDepth 20000 in
theorem vs_RX11_62 {X : Cx} (G : GC X) : VS X RX11 62 [(98, 1), (0, 2)] := vs_of (List.forall_mem_cons.mpr ⟨⟨iX0_wordOf, (RX0, TX0, 5, tyX0), mtX0_wordOf, moX0_wordOf, rfl, (gw 155 (by decide +kernel) rfl), rfl, Or.inl ⟨(gw 154 (by decide +kernel) rfl), selw G (gw 156 (by decide +kernel) rfl)⟩⟩, fun _ h => absurd h List.not_mem_nil⟩)
set_option maxRecDepth 20000 in
theorem ss_RX11_58 {X : Cx} (G : GC X) : SS X RX11 58 [(98, 2), (0, 137)] ∧ ([(98, 2), (0, 137)].lookup 0 = some 1000 → GW (.methodLink RX11 58 arraycopyName) ∧ GW (.native arraycopyName) ∧ GW (.static arraycopyName) ∧ GW (.initialized "java/lang/System")) := ss_of mtX11_isBelow moX11_isBelow rfl (gw 152 (by decide +kernel) rfl) (Or.inl (gw 151 (by decide +kernel) rfl)) (by decide)
set_option maxRecDepth 20000 in
theorem vs_RX11_76 {X : Cx} (G : GC X) : VS X RX11 76 [(98, 2), (0, 6)] := vs_of (List.forall_mem_cons.mpr ⟨⟨iX0_giveWeight, (RX0, TX0, 5, tyX0), mtX0_giveWeight, moX0_giveWeight, rfl, (gw 183 (by decide +kernel) rfl), rfl, Or.inl ⟨(gw 182 (by decide +kernel) rfl), selw G (gw 184 (by decide +kernel) rfl)⟩⟩, fun _ h => absurd h List.not_mem_nil⟩)
set_option maxRecDepth 20000 in
theorem vs_RX11_73 {X : Cx} (G : GC X) : VS X RX11 73 [(98, 1), (0, 3)] := vs_of (List.forall_mem_cons.mpr ⟨⟨iX0_weightOf, (RX0, TX0, 5, tyX0), mtX0_weightOf, moX0_weightOf, rfl, (gw 179 (by decide +kernel) rfl), rfl, Or.inl ⟨(gw 178 (by decide +kernel) rfl), selw G (gw 180 (by decide +kernel) rfl)⟩⟩, fun _ h => absurd h List.not_mem_nil⟩)
set_option maxRecDepth 20000 in
theorem vs_RX11_103 {X : Cx} (G : GC X) : VS X RX11 103 [(98, 0), (2, 29)] := vs_of (List.forall_mem_cons.mpr ⟨⟨iX2_told, (RX2, TX2, 5, tyX2), mtX2_told, moX2_told, rfl, (gw 293 (by decide +kernel) rfl), rfl, Or.inl ⟨(gw 292 (by decide +kernel) rfl), selw G (gw 294 (by decide +kernel) rfl)⟩⟩, fun _ h => absurd h List.not_mem_nil⟩)
set_option maxRecDepth 20000 in
theorem vs_RX11_99 {X : Cx} (G : GC X) : VS X RX11 99 [(98, 0), (2, 30)] := vs_of (List.forall_mem_cons.mpr ⟨⟨iX2_readText, (RX2, TX2, 5, tyX2), mtX2_readText, moX2_readText, rfl, (gw 239 (by decide +kernel) rfl), rfl, Or.inl ⟨(gw 238 (by decide +kernel) rfl), selw G (gw 240 (by decide +kernel) rfl)⟩⟩, fun _ h => absurd h List.not_mem_nil⟩)
set_option maxRecDepth 20000 in
theorem ps_RX11_96 {X : Cx} (G : GC X) : PS X RX11 96 [(98, 3), (0, 28), (202, 0)] := ps_init mtX2_init moX2_init rfl (gw 217 (by decide +kernel) rfl) rfl rfl (Or.inl (gw 216 (by decide +kernel) rfl)) (by decide)
set_option maxRecDepth 20000 in
theorem vs_RX11_91 {X : Cx} (G : GC X) : VS X RX11 91 [(98, 1), (10, 143)] := vs_of (List.forall_mem_cons.mpr ⟨⟨iX11_comeTo, (RX11, TX11, 10, tyX11), mtX11_comeTo, moX11_comeTo, rfl, (gw 212 (by decide +kernel) rfl), rfl, Or.inl ⟨(gw 210 (by decide +kernel) rfl), selw G (gwp (y := yX11_comeTo) (n := 10) (by decide +kernel))⟩⟩, fun _ h => absurd h List.not_mem_nil⟩)
set_option maxRecDepth 20000 in
theorem vs_RX11_87 {X : Cx} (G : GC X) : VS X RX11 87 [(98, 3), (6, 82)] := vs_of (List.forall_mem_cons.mpr ⟨⟨iX7_faultOfCells, (RX7, TX7, 3, tyX7), mtX7_faultOfCells, moX7_faultOfCells, rfl, (gw 195 (by decide +kernel) rfl), rfl, Or.inl ⟨(gw 194 (by decide +kernel) rfl), selw G (gw 196 (by decide +kernel) rfl)⟩⟩, fun _ h => absurd h List.not_mem_nil⟩)
set_option maxRecDepth 20000 in
theorem vs_RX11_83 {X : Cx} (G : GC X) : VS X RX11 83 [(98, 1), (10, 140)] := vs_of (List.forall_mem_cons.mpr ⟨⟨iX11_sheetAt, (RX11, TX11, 10, tyX11), mtX11_sheetAt, moX11_sheetAt, rfl, (gw 192 (by decide +kernel) rfl), rfl, Or.inl ⟨(gw 190 (by decide +kernel) rfl), selw G (gwp (y := yX11_sheetAt) (n := 10) (by decide +kernel))⟩⟩, fun _ h => absurd h List.not_mem_nil⟩)
set_option maxRecDepth 20000 in
theorem fs_RX11_79 : FS RX11 79 [(10, 9)] := List.forall_mem_cons.mpr ⟨⟨(RX11, TX11, 10, tyX11), rfl, by decide, gw 125 (by decide +kernel) rfl⟩, fun _ h => absurd h List.not_mem_nil⟩
set_option maxRecDepth 20000 in
theorem ss_RX11_117 {X : Cx} (G : GC X) : SS X RX11 117 [(98, 1), (0, 138)] ∧ ([(98, 1), (0, 138)].lookup 0 = some 1000 → GW (.methodLink RX11 117 arraycopyName) ∧ GW (.native arraycopyName) ∧ GW (.static arraycopyName) ∧ GW (.initialized "java/lang/System")) := ss_of mtX11_asNumber moX11_asNumber rfl (gw 314 (by decide +kernel) rfl) (Or.inl (gw 313 (by decide +kernel) rfl)) (by decide)
set_option maxRecDepth 20000 in
theorem vs_RX11_121 {X : Cx} (G : GC X) : VS X RX11 121 [(98, 0), (1, 22)] := vs_of (List.forall_mem_cons.mpr ⟨⟨iX1_allowsReuse, (RX1, TX1, 1, tyX1), mtX1_allowsReuse, moX1_allowsReuse, rfl, (gw 317 (by decide +kernel) rfl), rfl, Or.inl ⟨(gw 316 (by decide +kernel) rfl), selw G (gw 318 (by decide +kernel) rfl)⟩⟩, fun _ h => absurd h List.not_mem_nil⟩)
set_option maxRecDepth 20000 in
theorem vs_RX11_113 {X : Cx} (G : GC X) : VS X RX11 113 [(98, 0), (1, 21)] := vs_of (List.forall_mem_cons.mpr ⟨⟨iX1_hasCheck, (RX1, TX1, 1, tyX1), mtX1_hasCheck, moX1_hasCheck, rfl, (gw 309 (by decide +kernel) rfl), rfl, Or.inl ⟨(gw 308 (by decide +kernel) rfl), selw G (gw 310 (by decide +kernel) rfl)⟩⟩, fun _ h => absurd h List.not_mem_nil⟩)
set_option maxRecDepth 20000 in
theorem vs_RX11_110 {X : Cx} (G : GC X) : VS X RX11 110 [(98, 0), (1, 20)] := vs_of (List.forall_mem_cons.mpr ⟨⟨iX1_multiple, (RX1, TX1, 1, tyX1), mtX1_multiple, moX1_multiple, rfl, (gw 305 (by decide +kernel) rfl), rfl, Or.inl ⟨(gw 304 (by decide +kernel) rfl), selw G (gw 306 (by decide +kernel) rfl)⟩⟩, fun _ h => absurd h List.not_mem_nil⟩)
set_option maxRecDepth 20000 in
theorem vs_RX11_107 {X : Cx} (G : GC X) : VS X RX11 107 [(98, 0), (1, 19)] := vs_of (List.forall_mem_cons.mpr ⟨⟨iX1_beginning, (RX1, TX1, 1, tyX1), mtX1_beginning, moX1_beginning, rfl, (gw 301 (by decide +kernel) rfl), rfl, Or.inl ⟨(gw 300 (by decide +kernel) rfl), selw G (gw 302 (by decide +kernel) rfl)⟩⟩, fun _ h => absurd h List.not_mem_nil⟩)
set_option maxRecDepth 20000 in
theorem fs_RX11_127 : FS RX11 127 [(10, 7)] := List.forall_mem_cons.mpr ⟨⟨(RX11, TX11, 10, tyX11), rfl, by decide, gw 123 (by decide +kernel) rfl⟩, fun _ h => absurd h List.not_mem_nil⟩
set_option maxRecDepth 20000 in
theorem ss_RX11_134 {X : Cx} (G : GC X) : SS X RX11 134 [(98, 4), (0, 139)] ∧ ([(98, 4), (0, 139)].lookup 0 = some 1000 → GW (.methodLink RX11 134 arraycopyName) ∧ GW (.native arraycopyName) ∧ GW (.static arraycopyName) ∧ GW (.initialized "java/lang/System")) := ss_of mtX11_newPage moX11_newPage rfl (gw 340 (by decide +kernel) rfl) (Or.inl (gw 339 (by decide +kernel) rfl)) (by decide)
set_option maxRecDepth 20000 in
theorem vs_RX11_130 {X : Cx} (G : GC X) : VS X RX11 130 [(98, 2), (6, 89)] := vs_of (List.forall_mem_cons.mpr ⟨⟨iX7_groups, (RX7, TX7, 3, tyX7), mtX7_groups, moX7_groups, rfl, (gw 330 (by decide +kernel) rfl), rfl, Or.inl ⟨(gw 329 (by decide +kernel) rfl), selw G (gw 331 (by decide +kernel) rfl)⟩⟩, fun _ h => absurd h List.not_mem_nil⟩)
set_option maxRecDepth 20000 in
theorem vs_RX11_124 {X : Cx} (G : GC X) : VS X RX11 124 [(98, 2), (6, 88)] := vs_of (List.forall_mem_cons.mpr ⟨⟨iX7_hasOnlyGroups, (RX7, TX7, 3, tyX7), mtX7_hasOnlyGroups, moX7_hasOnlyGroups, rfl, (gw 325 (by decide +kernel) rfl), rfl, Or.inl ⟨(gw 324 (by decide +kernel) rfl), selw G (gw 326 (by decide +kernel) rfl)⟩⟩, fun _ h => absurd h List.not_mem_nil⟩)
set_option maxRecDepth 20000 in
theorem vs_RX11_159 {X : Cx} (G : GC X) : VS X RX11 159 [(98, 1), (4, 56), (7, 56), (8, 56)] := vs_of (List.forall_mem_cons.mpr ⟨⟨iX5_groupAt, (RX5, TX5, 4, tyX5), mtX5_groupAt, moX5_groupAt, rfl, (gw 439 (by decide +kernel) rfl), rfl, Or.inl ⟨(gw 438 (by decide +kernel) rfl), selw G (gw 440 (by decide +kernel) rfl)⟩⟩, List.forall_mem_cons.mpr ⟨⟨iX5_groupAt, (RX8, TX8, 4, tyX8), mtX5_groupAt, moX5_groupAt, rfl, (gw 439 (by decide +kernel) rfl), rfl, Or.inl ⟨(gw 438 (by decide +kernel) rfl), selw G (gw 442 (by decide +kernel) rfl)⟩⟩, List.forall_mem_cons.mpr ⟨⟨iX5_groupAt, (RX9, TX9, 4, tyX9), mtX5_groupAt, moX5_groupAt, rfl, (gw 439 (by decide +kernel) rfl), rfl, Or.inl ⟨(gw 438 (by decide +kernel) rfl), selw G (gw 443 (by decide +kernel) rfl)⟩⟩, fun _ h => absurd h List.not_mem_nil⟩⟩⟩)
set_option maxRecDepth 20000 in
theorem vs_RX11_148 {X : Cx} (G : GC X) : VS X RX11 148 [(98, 0), (4, 55), (7, 55), (8, 55)] := vs_of (List.forall_mem_cons.mpr ⟨⟨iX5_size, (RX5, TX5, 4, tyX5), mtX5_size, moX5_size, rfl, (gw 404 (by decide +kernel) rfl), rfl, Or.inl ⟨(gw 403 (by decide +kernel) rfl), selw G (gw 405 (by decide +kernel) rfl)⟩⟩, List.forall_mem_cons.mpr ⟨⟨iX5_size, (RX8, TX8, 4, tyX8), mtX5_size, moX5_size, rfl, (gw 404 (by decide +kernel) rfl), rfl, Or.inl ⟨(gw 403 (by decide +kernel) rfl), selw G (gw 407 (by decide +kernel) rfl)⟩⟩, List.forall_mem_cons.mpr ⟨⟨iX5_size, (RX9, TX9, 4, tyX9), mtX5_size, moX5_size, rfl, (gw 404 (by decide +kernel) rfl), rfl, Or.inl ⟨(gw 403 (by decide +kernel) rfl), selw G (gw 408 (by decide +kernel) rfl)⟩⟩, fun _ h => absurd h List.not_mem_nil⟩⟩⟩)
set_option maxRecDepth 20000 in
theorem fs_RX11_157 : FS RX11 157 [(4, 3), (7, 3), (8, 3)] := List.forall_mem_cons.mpr ⟨⟨(RX5, TX5, 4, tyX5), rfl, by decide, gw 355 (by decide +kernel) rfl⟩, List.forall_mem_cons.mpr ⟨⟨(RX8, TX8, 4, tyX8), rfl, by decide, gw 355 (by decide +kernel) rfl⟩, List.forall_mem_cons.mpr ⟨⟨(RX9, TX9, 4, tyX9), rfl, by decide, gw 355 (by decide +kernel) rfl⟩, fun _ h => absurd h List.not_mem_nil⟩⟩⟩
set_option maxRecDepth 20000 in
theorem vs_RX11_154 {X : Cx} (G : GC X) : VS X RX11 154 [(98, 0), (4, 57), (7, 57), (8, 57)] := vs_of (List.forall_mem_cons.mpr ⟨⟨iX5_isBurnt, (RX5, TX5, 4, tyX5), mtX5_isBurnt, moX5_isBurnt, rfl, (gw 432 (by decide +kernel) rfl), rfl, Or.inl ⟨(gw 431 (by decide +kernel) rfl), selw G (gw 433 (by decide +kernel) rfl)⟩⟩, List.forall_mem_cons.mpr ⟨⟨iX5_isBurnt, (RX8, TX8, 4, tyX8), mtX5_isBurnt, moX5_isBurnt, rfl, (gw 432 (by decide +kernel) rfl), rfl, Or.inl ⟨(gw 431 (by decide +kernel) rfl), selw G (gw 435 (by decide +kernel) rfl)⟩⟩, List.forall_mem_cons.mpr ⟨⟨iX5_isBurnt, (RX9, TX9, 4, tyX9), mtX5_isBurnt, moX5_isBurnt, rfl, (gw 432 (by decide +kernel) rfl), rfl, Or.inl ⟨(gw 431 (by decide +kernel) rfl), selw G (gw 436 (by decide +kernel) rfl)⟩⟩, fun _ h => absurd h List.not_mem_nil⟩⟩⟩)
set_option maxRecDepth 20000 in
theorem vs_RX11_151 {X : Cx} (G : GC X) : VS X RX11 151 [(98, 0), (4, 51), (7, 92), (8, 96)] := vs_of (List.forall_mem_cons.mpr ⟨⟨iX5_usable, (RX5, TX5, 4, tyX5), mtX5_usable, moX5_usable, rfl, (gw 411 (by decide +kernel) rfl), rfl, Or.inl ⟨(gw 410 (by decide +kernel) rfl), selw G (gw 412 (by decide +kernel) rfl)⟩⟩, List.forall_mem_cons.mpr ⟨⟨iX8_usable, (RX8, TX8, 4, tyX8), mtX8_usable, moX8_usable, rfl, (gw 415 (by decide +kernel) rfl), rfl, Or.inr ⟨⟨"BurntPads$Page", "usable", "()I"⟩, "BurntPads$Page", _, _, _, (gw 410 (by decide +kernel) rfl), (gw 413 (by decide +kernel) rfl), (gw 411 (by decide +kernel) rfl), moX5_usable.1, (gw 414 (by decide +kernel) rfl), ⟨by decide +kernel, by decide +kernel⟩, rfl⟩⟩, List.forall_mem_cons.mpr ⟨⟨iX9_usable, (RX9, TX9, 4, tyX9), mtX9_usable, moX9_usable, rfl, (gw 424 (by decide +kernel) rfl), rfl, Or.inr ⟨⟨"BurntPads$Page", "usable", "()I"⟩, "BurntPads$Page", _, _, _, (gw 410 (by decide +kernel) rfl), (gw 413 (by decide +kernel) rfl), (gw 411 (by decide +kernel) rfl), moX5_usable.1, (gw 423 (by decide +kernel) rfl), ⟨by decide +kernel, by decide +kernel⟩, rfl⟩⟩, fun _ h => absurd h List.not_mem_nil⟩⟩⟩)
set_option maxRecDepth 20000 in
theorem fs_RX11_145 : FS RX11 145 [(4, 1), (7, 1), (8, 1)] := List.forall_mem_cons.mpr ⟨⟨(RX5, TX5, 4, tyX5), rfl, by decide, gw 353 (by decide +kernel) rfl⟩, List.forall_mem_cons.mpr ⟨⟨(RX8, TX8, 4, tyX8), rfl, by decide, gw 353 (by decide +kernel) rfl⟩, List.forall_mem_cons.mpr ⟨⟨(RX9, TX9, 4, tyX9), rfl, by decide, gw 353 (by decide +kernel) rfl⟩, fun _ h => absurd h List.not_mem_nil⟩⟩⟩
set_option maxRecDepth 20000 in
theorem vs_RX11_142 {X : Cx} (G : GC X) : VS X RX11 142 [(98, 0), (4, 50), (7, 91), (8, 95)] := vs_of (List.forall_mem_cons.mpr ⟨⟨iX5_kind, (RX5, TX5, 4, tyX5), mtX5_kind, moX5_kind, rfl, (gw 393 (by decide +kernel) rfl), rfl, Or.inl ⟨(gw 392 (by decide +kernel) rfl), selw G (gw 394 (by decide +kernel) rfl)⟩⟩, List.forall_mem_cons.mpr ⟨⟨iX8_kind, (RX8, TX8, 4, tyX8), mtX8_kind, moX8_kind, rfl, (gw 397 (by decide +kernel) rfl), rfl, Or.inr ⟨⟨"BurntPads$Page", "kind", "()I"⟩, "BurntPads$Page", _, _, _, (gw 392 (by decide +kernel) rfl), (gw 395 (by decide +kernel) rfl), (gw 393 (by decide +kernel) rfl), moX5_kind.1, (gw 396 (by decide +kernel) rfl), ⟨by decide +kernel, by decide +kernel⟩, rfl⟩⟩, List.forall_mem_cons.mpr ⟨⟨iX9_kind, (RX9, TX9, 4, tyX9), mtX9_kind, moX9_kind, rfl, (gw 400 (by decide +kernel) rfl), rfl, Or.inr ⟨⟨"BurntPads$Page", "kind", "()I"⟩, "BurntPads$Page", _, _, _, (gw 392 (by decide +kernel) rfl), (gw 395 (by decide +kernel) rfl), (gw 393 (by decide +kernel) rfl), moX5_kind.1, (gw 399 (by decide +kernel) rfl), ⟨by decide +kernel, by decide +kernel⟩, rfl⟩⟩, fun _ h => absurd h List.not_mem_nil⟩⟩⟩)
set_option maxRecDepth 20000 in
theorem vs_RX11_138 {X : Cx} (G : GC X) : VS X RX11 138 [(98, 1), (10, 141)] := vs_of (List.forall_mem_cons.mpr ⟨⟨iX11_pageAt, (RX11, TX11, 10, tyX11), mtX11_pageAt, moX11_pageAt, rfl, (gw 390 (by decide +kernel) rfl), rfl, Or.inl ⟨(gw 388 (by decide +kernel) rfl), selw G (gwp (y := yX11_pageAt) (n := 10) (by decide +kernel))⟩⟩, fun _ h => absurd h List.not_mem_nil⟩)
set_option maxRecDepth 20000 in
theorem fs_RX11_169 : FS RX11 169 [(10, 8)] := List.forall_mem_cons.mpr ⟨⟨(RX11, TX11, 10, tyX11), rfl, by decide, gw 124 (by decide +kernel) rfl⟩, fun _ h => absurd h List.not_mem_nil⟩
set_option maxRecDepth 20000 in
theorem ps_RX11_180 {X : Cx} (G : GC X) : PS X RX11 180 [(98, 3), (0, 36), (203, 0)] := ps_init mtX3_init moX3_init rfl (gw 489 (by decide +kernel) rfl) rfl rfl (Or.inl (gw 488 (by decide +kernel) rfl)) (by decide)
set_option maxRecDepth 20000 in
theorem vs_RX11_176 {X : Cx} (G : GC X) : VS X RX11 176 [(98, 1), (4, 58), (7, 58), (8, 58)] := vs_of (List.forall_mem_cons.mpr ⟨⟨iX5_hide, (RX5, TX5, 4, tyX5), mtX5_hide, moX5_hide, rfl, (gw 480 (by decide +kernel) rfl), rfl, Or.inl ⟨(gw 479 (by decide +kernel) rfl), selw G (gw 481 (by decide +kernel) rfl)⟩⟩, List.forall_mem_cons.mpr ⟨⟨iX5_hide, (RX8, TX8, 4, tyX8), mtX5_hide, moX5_hide, rfl, (gw 480 (by decide +kernel) rfl), rfl, Or.inl ⟨(gw 479 (by decide +kernel) rfl), selw G (gw 483 (by decide +kernel) rfl)⟩⟩, List.forall_mem_cons.mpr ⟨⟨iX5_hide, (RX9, TX9, 4, tyX9), mtX5_hide, moX5_hide, rfl, (gw 480 (by decide +kernel) rfl), rfl, Or.inl ⟨(gw 479 (by decide +kernel) rfl), selw G (gw 484 (by decide +kernel) rfl)⟩⟩, fun _ h => absurd h List.not_mem_nil⟩⟩⟩)
set_option maxRecDepth 20000 in
theorem vs_RX11_172 {X : Cx} (G : GC X) : VS X RX11 172 [(98, 5), (1, 25)] := vs_of (List.forall_mem_cons.mpr ⟨⟨iX1_lay, (RX1, TX1, 1, tyX1), mtX1_lay, moX1_lay, rfl, (gw 467 (by decide +kernel) rfl), rfl, Or.inl ⟨(gw 466 (by decide +kernel) rfl), selw G (gw 468 (by decide +kernel) rfl)⟩⟩, fun _ h => absurd h List.not_mem_nil⟩)
set_option maxRecDepth 20000 in
theorem vs_RX11_166 {X : Cx} (G : GC X) : VS X RX11 166 [(98, 1), (1, 23)] := vs_of (List.forall_mem_cons.mpr ⟨⟨iX1_sizeLaid, (RX1, TX1, 1, tyX1), mtX1_sizeLaid, moX1_sizeLaid, rfl, (gw 457 (by decide +kernel) rfl), rfl, Or.inl ⟨(gw 456 (by decide +kernel) rfl), selw G (gw 458 (by decide +kernel) rfl)⟩⟩, fun _ h => absurd h List.not_mem_nil⟩)
set_option maxRecDepth 20000 in
theorem vs_RX11_162 {X : Cx} (G : GC X) : VS X RX11 162 [(98, 3), (0, 8)] := vs_of (List.forall_mem_cons.mpr ⟨⟨iX0_hasCodesOf, (RX0, TX0, 5, tyX0), mtX0_hasCodesOf, moX0_hasCodesOf, rfl, (gw 451 (by decide +kernel) rfl), rfl, Or.inl ⟨(gw 450 (by decide +kernel) rfl), selw G (gw 452 (by decide +kernel) rfl)⟩⟩, fun _ h => absurd h List.not_mem_nil⟩)
set_option maxRecDepth 20000 in
theorem vs_RX11_194 {X : Cx} (G : GC X) : VS X RX11 194 [(98, 1), (3, 38)] := vs_of (List.forall_mem_cons.mpr ⟨⟨iX3_groupAt, (RX3, TX3, 3, tyX3), mtX3_groupAt, moX3_groupAt, rfl, (gw 517 (by decide +kernel) rfl), rfl, Or.inl ⟨(gw 516 (by decide +kernel) rfl), selw G (gw 518 (by decide +kernel) rfl)⟩⟩, fun _ h => absurd h List.not_mem_nil⟩)
set_option maxRecDepth 20000 in
theorem vs_RX11_193 {X : Cx} (G : GC X) : VS X RX11 193 [(98, 0), (3, 37)] := vs_of (List.forall_mem_cons.mpr ⟨⟨iX3_size, (RX3, TX3, 3, tyX3), mtX3_size, moX3_size, rfl, (gw 513 (by decide +kernel) rfl), rfl, Or.inl ⟨(gw 512 (by decide +kernel) rfl), selw G (gw 514 (by decide +kernel) rfl)⟩⟩, fun _ h => absurd h List.not_mem_nil⟩)
set_option maxRecDepth 20000 in
theorem fs_RX11_190 : FS RX11 190 [(3, 1)] := List.forall_mem_cons.mpr ⟨⟨(RX3, TX3, 3, tyX3), rfl, by decide, gw 495 (by decide +kernel) rfl⟩, fun _ h => absurd h List.not_mem_nil⟩
set_option maxRecDepth 20000 in
theorem fs_RX11_187 : FS RX11 187 [(3, 0)] := List.forall_mem_cons.mpr ⟨⟨(RX3, TX3, 3, tyX3), rfl, by decide, gw 493 (by decide +kernel) rfl⟩, fun _ h => absurd h List.not_mem_nil⟩
set_option maxRecDepth 20000 in
theorem vs_RX11_183 {X : Cx} (G : GC X) : VS X RX11 183 [(98, 1), (10, 142)] := vs_of (List.forall_mem_cons.mpr ⟨⟨iX11_letterAt, (RX11, TX11, 10, tyX11), mtX11_letterAt, moX11_letterAt, rfl, (gw 510 (by decide +kernel) rfl), rfl, Or.inl ⟨(gw 508 (by decide +kernel) rfl), selw G (gwp (y := yX11_letterAt) (n := 10) (by decide +kernel))⟩⟩, fun _ h => absurd h List.not_mem_nil⟩)
set_option maxRecDepth 20000 in
theorem vs_RX11_199 {X : Cx} (G : GC X) : VS X RX11 199 [(98, 2), (4, 59), (7, 59), (8, 59)] := vs_of (List.forall_mem_cons.mpr ⟨⟨iX5_uncovered, (RX5, TX5, 4, tyX5), mtX5_uncovered, moX5_uncovered, rfl, (gw 530 (by decide +kernel) rfl), rfl, Or.inl ⟨(gw 529 (by decide +kernel) rfl), selw G (gw 531 (by decide +kernel) rfl)⟩⟩, List.forall_mem_cons.mpr ⟨⟨iX5_uncovered, (RX8, TX8, 4, tyX8), mtX5_uncovered, moX5_uncovered, rfl, (gw 530 (by decide +kernel) rfl), rfl, Or.inl ⟨(gw 529 (by decide +kernel) rfl), selw G (gw 533 (by decide +kernel) rfl)⟩⟩, List.forall_mem_cons.mpr ⟨⟨iX5_uncovered, (RX9, TX9, 4, tyX9), mtX5_uncovered, moX5_uncovered, rfl, (gw 530 (by decide +kernel) rfl), rfl, Or.inl ⟨(gw 529 (by decide +kernel) rfl), selw G (gw 534 (by decide +kernel) rfl)⟩⟩, fun _ h => absurd h List.not_mem_nil⟩⟩⟩)
set_option maxRecDepth 20000 in
theorem vs_RX11_195 {X : Cx} (G : GC X) : VS X RX11 195 [(98, 2), (10, 144)] := vs_of (List.forall_mem_cons.mpr ⟨⟨iX11_isWrong, (RX11, TX11, 10, tyX11), mtX11_isWrong, moX11_isWrong, rfl, (gw 527 (by decide +kernel) rfl), rfl, Or.inl ⟨(gw 525 (by decide +kernel) rfl), selw G (gwp (y := yX11_isWrong) (n := 10) (by decide +kernel))⟩⟩, fun _ h => absurd h List.not_mem_nil⟩)
set_option maxRecDepth 20000 in
theorem vs_RX11_203 {X : Cx} (G : GC X) : VS X RX11 203 [(98, 2), (5, 68)] := vs_of (List.forall_mem_cons.mpr ⟨⟨iX6_changeNeed, (RX6, TX6, 6, tyX6), mtX6_changeNeed, moX6_changeNeed, rfl, (gw 544 (by decide +kernel) rfl), rfl, Or.inl ⟨(gw 543 (by decide +kernel) rfl), selw G (gw 545 (by decide +kernel) rfl)⟩⟩, fun _ h => absurd h List.not_mem_nil⟩)
set_option maxRecDepth 20000 in
theorem vs_RX11_207 {X : Cx} (G : GC X) : VS X RX11 207 [(98, 0), (5, 67)] := vs_of (List.forall_mem_cons.mpr ⟨⟨iX6_bagCount, (RX6, TX6, 6, tyX6), mtX6_bagCount, moX6_bagCount, rfl, (gw 553 (by decide +kernel) rfl), rfl, Or.inl ⟨(gw 552 (by decide +kernel) rfl), selw G (gw 554 (by decide +kernel) rfl)⟩⟩, fun _ h => absurd h List.not_mem_nil⟩)
set_option maxRecDepth 20000 in
theorem vs_RX11_210 {X : Cx} (G : GC X) : VS X RX11 210 [(98, 3), (5, 69)] := vs_of (List.forall_mem_cons.mpr ⟨⟨iX6_addBag, (RX6, TX6, 6, tyX6), mtX6_addBag, moX6_addBag, rfl, (gw 557 (by decide +kernel) rfl), rfl, Or.inl ⟨(gw 556 (by decide +kernel) rfl), selw G (gw 558 (by decide +kernel) rfl)⟩⟩, fun _ h => absurd h List.not_mem_nil⟩)
set_option maxRecDepth 20000 in
theorem vs_RX11_214 {X : Cx} (G : GC X) : VS X RX11 214 [(98, 2), (5, 70)] := vs_of (List.forall_mem_cons.mpr ⟨⟨iX6_dayOut, (RX6, TX6, 6, tyX6), mtX6_dayOut, moX6_dayOut, rfl, (gw 565 (by decide +kernel) rfl), rfl, Or.inl ⟨(gw 564 (by decide +kernel) rfl), selw G (gw 566 (by decide +kernel) rfl)⟩⟩, fun _ h => absurd h List.not_mem_nil⟩)
set_option maxRecDepth 20000 in
theorem vs_RX11_220 {X : Cx} (G : GC X) : VS X RX11 220 [(98, 1), (5, 73)] := vs_of (List.forall_mem_cons.mpr ⟨⟨iX6_partOf, (RX6, TX6, 6, tyX6), mtX6_partOf, moX6_partOf, rfl, (gw 582 (by decide +kernel) rfl), rfl, Or.inl ⟨(gw 581 (by decide +kernel) rfl), selw G (gw 583 (by decide +kernel) rfl)⟩⟩, fun _ h => absurd h List.not_mem_nil⟩)
set_option maxRecDepth 20000 in
theorem vs_RX11_217 {X : Cx} (G : GC X) : VS X RX11 217 [(98, 1), (5, 71)] := vs_of (List.forall_mem_cons.mpr ⟨⟨iX6_part, (RX6, TX6, 6, tyX6), mtX6_part, moX6_part, rfl, (gw 573 (by decide +kernel) rfl), rfl, Or.inl ⟨(gw 572 (by decide +kernel) rfl), selw G (gw 574 (by decide +kernel) rfl)⟩⟩, fun _ h => absurd h List.not_mem_nil⟩)
set_option maxRecDepth 20000 in
theorem ss_RX11_233 {X : Cx} (G : GC X) : SS X RX11 233 [(98, 3), (0, 42)] ∧ ([(98, 3), (0, 42)].lookup 0 = some 1000 → GW (.methodLink RX11 233 arraycopyName) ∧ GW (.native arraycopyName) ∧ GW (.static arraycopyName) ∧ GW (.initialized "java/lang/System")) := ss_of mtX4_sure moX4_sure rfl (gw 608 (by decide +kernel) rfl) (Or.inl (gw 607 (by decide +kernel) rfl)) (by decide)
set_option maxRecDepth 20000 in
theorem ss_RX11_229 {X : Cx} (G : GC X) : SS X RX11 229 [(98, 3), (0, 41)] ∧ ([(98, 3), (0, 41)].lookup 0 = some 1000 → GW (.methodLink RX11 229 arraycopyName) ∧ GW (.native arraycopyName) ∧ GW (.static arraycopyName) ∧ GW (.initialized "java/lang/System")) := ss_of mtX4_fitting moX4_fitting rfl (gw 595 (by decide +kernel) rfl) (Or.inl (gw 594 (by decide +kernel) rfl)) (by decide)
set_option maxRecDepth 20000 in
theorem ss_RX11_223 {X : Cx} (G : GC X) : SS X RX11 223 [(98, 2), (0, 39)] ∧ ([(98, 2), (0, 39)].lookup 0 = some 1000 → GW (.methodLink RX11 223 arraycopyName) ∧ GW (.native arraycopyName) ∧ GW (.static arraycopyName) ∧ GW (.initialized "java/lang/System")) := ss_of mtX4_places moX4_places rfl (gw 590 (by decide +kernel) rfl) (Or.inl (gw 589 (by decide +kernel) rfl)) (by decide)
set_option maxRecDepth 20000 in
theorem vs_RX11_236 {X : Cx} (G : GC X) : VS X RX11 236 [(98, 0), (0, 10)] := vs_of (List.forall_mem_cons.mpr ⟨⟨iX0_spreadOfCodes, (RX0, TX0, 5, tyX0), mtX0_spreadOfCodes, moX0_spreadOfCodes, rfl, (gw 615 (by decide +kernel) rfl), rfl, Or.inl ⟨(gw 614 (by decide +kernel) rfl), selw G (gw 616 (by decide +kernel) rfl)⟩⟩, fun _ h => absurd h List.not_mem_nil⟩)
