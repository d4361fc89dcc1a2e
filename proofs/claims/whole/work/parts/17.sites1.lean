set_option maxRecDepth 20000 in
theorem ss_RX11_241 {X : Cx} (G : GC X) : SS X RX11 241 [(98, 4), (0, 44)] ∧ ([(98, 4), (0, 44)].lookup 0 = some 1000 → GW (.methodLink RX11 241 arraycopyName) ∧ GW (.native arraycopyName) ∧ GW (.static arraycopyName) ∧ GW (.initialized "java/lang/System")) := ss_of mtX4_shareInLeastTerms moX4_shareInLeastTerms rfl (gw 624 (by decide +kernel) rfl) (Or.inl (gw 623 (by decide +kernel) rfl)) (by decide)
set_option maxRecDepth 20000 in
theorem ss_RX11_245 {X : Cx} (G : GC X) : SS X RX11 245 [(98, 4), (0, 43)] ∧ ([(98, 4), (0, 43)].lookup 0 = some 1000 → GW (.methodLink RX11 245 arraycopyName) ∧ GW (.native arraycopyName) ∧ GW (.static arraycopyName) ∧ GW (.initialized "java/lang/System")) := ss_of mtX4_shareOf moX4_shareOf rfl (gw 628 (by decide +kernel) rfl) (Or.inl (gw 646 (by decide +kernel) rfl)) (by decide)
set_option maxRecDepth 20000 in
theorem vs_RX11_258 {X : Cx} (G : GC X) : VS X RX11 258 [(98, 2), (0, 11)] := vs_of (List.forall_mem_cons.mpr ⟨⟨iX0_partner, (RX0, TX0, 5, tyX0), mtX0_partner, moX0_partner, rfl, (gw 658 (by decide +kernel) rfl), rfl, Or.inl ⟨(gw 663 (by decide +kernel) rfl), selw G (gw 659 (by decide +kernel) rfl)⟩⟩, fun _ h => absurd h List.not_mem_nil⟩)
set_option maxRecDepth 20000 in
theorem vs_RX11_255 {X : Cx} (G : GC X) : VS X RX11 255 [(98, 1), (0, 12)] := vs_of (List.forall_mem_cons.mpr ⟨⟨iX0_likeliest, (RX0, TX0, 5, tyX0), mtX0_likeliest, moX0_likeliest, rfl, (gw 654 (by decide +kernel) rfl), rfl, Or.inl ⟨(gw 653 (by decide +kernel) rfl), selw G (gw 655 (by decide +kernel) rfl)⟩⟩, fun _ h => absurd h List.not_mem_nil⟩)
set_option maxRecDepth 20000 in
theorem vs_RX11_252 {X : Cx} (G : GC X) : VS X RX11 252 [(98, 1), (0, 9)] := vs_of (List.forall_mem_cons.mpr ⟨⟨iX0_pairsApart, (RX0, TX0, 5, tyX0), mtX0_pairsApart, moX0_pairsApart, rfl, (gw 604 (by decide +kernel) rfl), rfl, Or.inl ⟨(gw 652 (by decide +kernel) rfl), selw G (gw 605 (by decide +kernel) rfl)⟩⟩, fun _ h => absurd h List.not_mem_nil⟩)
set_option maxRecDepth 20000 in
theorem ss_RX11_248 {X : Cx} (G : GC X) : SS X RX11 248 [(98, 3), (0, 40)] ∧ ([(98, 3), (0, 40)].lookup 0 = some 1000 → GW (.methodLink RX11 248 arraycopyName) ∧ GW (.native arraycopyName) ∧ GW (.static arraycopyName) ∧ GW (.initialized "java/lang/System")) := ss_of mtX4_apart moX4_apart rfl (gw 599 (by decide +kernel) rfl) (Or.inl (gw 651 (by decide +kernel) rfl)) (by decide)
set_option maxRecDepth 20000 in
theorem vs_RX11_266 {X : Cx} (G : GC X) : VS X RX11 266 [(98, 2), (0, 13)] := vs_of (List.forall_mem_cons.mpr ⟨⟨iX0_triplesApart, (RX0, TX0, 5, tyX0), mtX0_triplesApart, moX0_triplesApart, rfl, (gw 670 (by decide +kernel) rfl), rfl, Or.inl ⟨(gw 669 (by decide +kernel) rfl), selw G (gw 671 (by decide +kernel) rfl)⟩⟩, fun _ h => absurd h List.not_mem_nil⟩)
set_option maxRecDepth 20000 in
theorem ss_RX11_261 {X : Cx} (G : GC X) : SS X RX11 261 [(98, 2), (0, 225)] ∧ ([(98, 2), (0, 225)].lookup 0 = some 1000 → GW (.methodLink RX11 261 arraycopyName) ∧ GW (.native arraycopyName) ∧ GW (.static arraycopyName) ∧ GW (.initialized "java/lang/System")) := ss_of mtJ9_min_7cf53 moJ9_min_7cf53 rfl (gw 334 (by decide +kernel) rfl) (Or.inl (gw 668 (by decide +kernel) rfl)) (by decide)
set_option maxRecDepth 20000 in
theorem ss_RX11_269 {X : Cx} (G : GC X) : SS X RX11 269 [(98, 7), (0, 48)] ∧ ([(98, 7), (0, 48)].lookup 0 = some 1000 → GW (.methodLink RX11 269 arraycopyName) ∧ GW (.native arraycopyName) ∧ GW (.static arraycopyName) ∧ GW (.initialized "java/lang/System")) := ss_of mtX4_meets moX4_meets rfl (gw 678 (by decide +kernel) rfl) (Or.inl (gw 677 (by decide +kernel) rfl)) (by decide)
set_option maxRecDepth 20000 in
theorem vs_RX11_273 {X : Cx} (G : GC X) : VS X RX11 273 [(98, 2), (10, 145)] := vs_of (List.forall_mem_cons.mpr ⟨⟨iX11_lettersUpTo, (RX11, TX11, 10, tyX11), mtX11_lettersUpTo, moX11_lettersUpTo, rfl, (gw 688 (by decide +kernel) rfl), rfl, Or.inl ⟨(gw 686 (by decide +kernel) rfl), selw G (gwp (y := yX11_lettersUpTo) (n := 10) (by decide +kernel))⟩⟩, fun _ h => absurd h List.not_mem_nil⟩)
set_option maxRecDepth 20000 in
theorem vs_RX11_282 {X : Cx} (G : GC X) : VS X RX11 282 [(98, 0), (4, 63), (7, 63), (8, 63)] := vs_of (List.forall_mem_cons.mpr ⟨⟨iX5_leastAddend, (RX5, TX5, 4, tyX5), mtX5_leastAddend, moX5_leastAddend, rfl, (gw 713 (by decide +kernel) rfl), rfl, Or.inl ⟨(gw 712 (by decide +kernel) rfl), selw G (gw 714 (by decide +kernel) rfl)⟩⟩, List.forall_mem_cons.mpr ⟨⟨iX5_leastAddend, (RX8, TX8, 4, tyX8), mtX5_leastAddend, moX5_leastAddend, rfl, (gw 713 (by decide +kernel) rfl), rfl, Or.inl ⟨(gw 712 (by decide +kernel) rfl), selw G (gw 716 (by decide +kernel) rfl)⟩⟩, List.forall_mem_cons.mpr ⟨⟨iX5_leastAddend, (RX9, TX9, 4, tyX9), mtX5_leastAddend, moX5_leastAddend, rfl, (gw 713 (by decide +kernel) rfl), rfl, Or.inl ⟨(gw 712 (by decide +kernel) rfl), selw G (gw 717 (by decide +kernel) rfl)⟩⟩, fun _ h => absurd h List.not_mem_nil⟩⟩⟩)
set_option maxRecDepth 20000 in
theorem vs_RX11_279 {X : Cx} (G : GC X) : VS X RX11 279 [(98, 0), (4, 62), (7, 62), (8, 62)] := vs_of (List.forall_mem_cons.mpr ⟨⟨iX5_leastFactor, (RX5, TX5, 4, tyX5), mtX5_leastFactor, moX5_leastFactor, rfl, (gw 706 (by decide +kernel) rfl), rfl, Or.inl ⟨(gw 705 (by decide +kernel) rfl), selw G (gw 707 (by decide +kernel) rfl)⟩⟩, List.forall_mem_cons.mpr ⟨⟨iX5_leastFactor, (RX8, TX8, 4, tyX8), mtX5_leastFactor, moX5_leastFactor, rfl, (gw 706 (by decide +kernel) rfl), rfl, Or.inl ⟨(gw 705 (by decide +kernel) rfl), selw G (gw 709 (by decide +kernel) rfl)⟩⟩, List.forall_mem_cons.mpr ⟨⟨iX5_leastFactor, (RX9, TX9, 4, tyX9), mtX5_leastFactor, moX5_leastFactor, rfl, (gw 706 (by decide +kernel) rfl), rfl, Or.inl ⟨(gw 705 (by decide +kernel) rfl), selw G (gw 710 (by decide +kernel) rfl)⟩⟩, fun _ h => absurd h List.not_mem_nil⟩⟩⟩)
set_option maxRecDepth 20000 in
theorem vs_RX11_276 {X : Cx} (G : GC X) : VS X RX11 276 [(98, 0), (4, 61), (7, 61), (8, 61)] := vs_of (List.forall_mem_cons.mpr ⟨⟨iX5_countMakers, (RX5, TX5, 4, tyX5), mtX5_countMakers, moX5_countMakers, rfl, (gw 695 (by decide +kernel) rfl), rfl, Or.inl ⟨(gw 694 (by decide +kernel) rfl), selw G (gw 696 (by decide +kernel) rfl)⟩⟩, List.forall_mem_cons.mpr ⟨⟨iX5_countMakers, (RX8, TX8, 4, tyX8), mtX5_countMakers, moX5_countMakers, rfl, (gw 695 (by decide +kernel) rfl), rfl, Or.inl ⟨(gw 694 (by decide +kernel) rfl), selw G (gw 698 (by decide +kernel) rfl)⟩⟩, List.forall_mem_cons.mpr ⟨⟨iX5_countMakers, (RX9, TX9, 4, tyX9), mtX5_countMakers, moX5_countMakers, rfl, (gw 695 (by decide +kernel) rfl), rfl, Or.inl ⟨(gw 694 (by decide +kernel) rfl), selw G (gw 699 (by decide +kernel) rfl)⟩⟩, fun _ h => absurd h List.not_mem_nil⟩⟩⟩)
set_option maxRecDepth 20000 in
theorem vs_RX11_285 {X : Cx} (G : GC X) : VS X RX11 285 [(98, 1), (4, 64), (7, 64), (8, 64)] := vs_of (List.forall_mem_cons.mpr ⟨⟨iX5_isLike, (RX5, TX5, 4, tyX5), mtX5_isLike, moX5_isLike, rfl, (gw 725 (by decide +kernel) rfl), rfl, Or.inl ⟨(gw 724 (by decide +kernel) rfl), selw G (gw 726 (by decide +kernel) rfl)⟩⟩, List.forall_mem_cons.mpr ⟨⟨iX5_isLike, (RX8, TX8, 4, tyX8), mtX5_isLike, moX5_isLike, rfl, (gw 725 (by decide +kernel) rfl), rfl, Or.inl ⟨(gw 724 (by decide +kernel) rfl), selw G (gw 728 (by decide +kernel) rfl)⟩⟩, List.forall_mem_cons.mpr ⟨⟨iX5_isLike, (RX9, TX9, 4, tyX9), mtX5_isLike, moX5_isLike, rfl, (gw 725 (by decide +kernel) rfl), rfl, Or.inl ⟨(gw 724 (by decide +kernel) rfl), selw G (gw 729 (by decide +kernel) rfl)⟩⟩, fun _ h => absurd h List.not_mem_nil⟩⟩⟩)
set_option maxRecDepth 20000 in
theorem vs_RX11_289 {X : Cx} (G : GC X) : VS X RX11 289 [(98, 0), (4, 65), (7, 65), (8, 65)] := vs_of (List.forall_mem_cons.mpr ⟨⟨iX5_groupBehind, (RX5, TX5, 4, tyX5), mtX5_groupBehind, moX5_groupBehind, rfl, (gw 736 (by decide +kernel) rfl), rfl, Or.inl ⟨(gw 735 (by decide +kernel) rfl), selw G (gw 737 (by decide +kernel) rfl)⟩⟩, List.forall_mem_cons.mpr ⟨⟨iX5_groupBehind, (RX8, TX8, 4, tyX8), mtX5_groupBehind, moX5_groupBehind, rfl, (gw 736 (by decide +kernel) rfl), rfl, Or.inl ⟨(gw 735 (by decide +kernel) rfl), selw G (gw 739 (by decide +kernel) rfl)⟩⟩, List.forall_mem_cons.mpr ⟨⟨iX5_groupBehind, (RX9, TX9, 4, tyX9), mtX5_groupBehind, moX5_groupBehind, rfl, (gw 736 (by decide +kernel) rfl), rfl, Or.inl ⟨(gw 735 (by decide +kernel) rfl), selw G (gw 740 (by decide +kernel) rfl)⟩⟩, fun _ h => absurd h List.not_mem_nil⟩⟩⟩)
set_option maxRecDepth 20000 in
theorem vs_RX11_292 {X : Cx} (G : GC X) : VS X RX11 292 [(98, 2), (6, 77)] := vs_of (List.forall_mem_cons.mpr ⟨⟨iX7_renew, (RX7, TX7, 3, tyX7), mtX7_renew, moX7_renew, rfl, (gw 747 (by decide +kernel) rfl), rfl, Or.inl ⟨(gw 746 (by decide +kernel) rfl), selw G (gw 748 (by decide +kernel) rfl)⟩⟩, fun _ h => absurd h List.not_mem_nil⟩)
set_option maxRecDepth 20000 in
theorem vs_RX11_298 {X : Cx} (G : GC X) : VS X RX11 298 [(98, 0), (6, 76)] := vs_of (List.forall_mem_cons.mpr ⟨⟨iX7_empty, (RX7, TX7, 3, tyX7), mtX7_empty, moX7_empty, rfl, (gw 756 (by decide +kernel) rfl), rfl, Or.inl ⟨(gw 755 (by decide +kernel) rfl), selw G (gw 757 (by decide +kernel) rfl)⟩⟩, fun _ h => absurd h List.not_mem_nil⟩)
set_option maxRecDepth 20000 in
theorem vs_RX11_295 {X : Cx} (G : GC X) : VS X RX11 295 [(98, 0), (6, 75)] := vs_of (List.forall_mem_cons.mpr ⟨⟨iX7_isNothing, (RX7, TX7, 3, tyX7), mtX7_isNothing, moX7_isNothing, rfl, (gw 203 (by decide +kernel) rfl), rfl, Or.inl ⟨(gw 754 (by decide +kernel) rfl), selw G (gw 204 (by decide +kernel) rfl)⟩⟩, fun _ h => absurd h List.not_mem_nil⟩)
set_option maxRecDepth 20000 in
theorem vs_RX11_305 {X : Cx} (G : GC X) : VS X RX11 305 [(98, 2), (6, 85)] := vs_of (List.forall_mem_cons.mpr ⟨⟨iX7_change, (RX7, TX7, 3, tyX7), mtX7_change, moX7_change, rfl, (gw 765 (by decide +kernel) rfl), rfl, Or.inl ⟨(gw 764 (by decide +kernel) rfl), selw G (gw 766 (by decide +kernel) rfl)⟩⟩, fun _ h => absurd h List.not_mem_nil⟩)
set_option maxRecDepth 20000 in
theorem vs_RX11_301 {X : Cx} (G : GC X) : VS X RX11 301 [(98, 1), (6, 79)] := vs_of (List.forall_mem_cons.mpr ⟨⟨iX7_hasCell, (RX7, TX7, 3, tyX7), mtX7_hasCell, moX7_hasCell, rfl, (gw 255 (by decide +kernel) rfl), rfl, Or.inl ⟨(gw 763 (by decide +kernel) rfl), selw G (gw 256 (by decide +kernel) rfl)⟩⟩, fun _ h => absurd h List.not_mem_nil⟩)
set_option maxRecDepth 20000 in
theorem vs_RX11_311 {X : Cx} (G : GC X) : VS X RX11 311 [(98, 1), (6, 84)] := vs_of (List.forall_mem_cons.mpr ⟨⟨iX7_at, (RX7, TX7, 3, tyX7), mtX7_at, moX7_at, rfl, (gw 251 (by decide +kernel) rfl), rfl, Or.inl ⟨(gw 780 (by decide +kernel) rfl), selw G (gw 252 (by decide +kernel) rfl)⟩⟩, fun _ h => absurd h List.not_mem_nil⟩)
set_option maxRecDepth 20000 in
theorem vs_RX11_308 {X : Cx} (G : GC X) : VS X RX11 308 [(98, 2), (6, 83)] := vs_of (List.forall_mem_cons.mpr ⟨⟨iX7_faultOfCell, (RX7, TX7, 3, tyX7), mtX7_faultOfCell, moX7_faultOfCell, rfl, (gw 777 (by decide +kernel) rfl), rfl, Or.inl ⟨(gw 776 (by decide +kernel) rfl), selw G (gw 778 (by decide +kernel) rfl)⟩⟩, fun _ h => absurd h List.not_mem_nil⟩)
set_option maxRecDepth 20000 in
theorem vs_RX11_321 {X : Cx} (G : GC X) : VS X RX11 321 [(98, 4), (6, 87)] := vs_of (List.forall_mem_cons.mpr ⟨⟨iX7_take, (RX7, TX7, 3, tyX7), mtX7_take, moX7_take, rfl, (gw 791 (by decide +kernel) rfl), rfl, Or.inl ⟨(gw 790 (by decide +kernel) rfl), selw G (gw 792 (by decide +kernel) rfl)⟩⟩, fun _ h => absurd h List.not_mem_nil⟩)
set_option maxRecDepth 20000 in
theorem vs_RX11_318 {X : Cx} (G : GC X) : VS X RX11 318 [(98, 2), (6, 80)] := vs_of (List.forall_mem_cons.mpr ⟨⟨iX7_hasCells, (RX7, TX7, 3, tyX7), mtX7_hasCells, moX7_hasCells, rfl, (gw 207 (by decide +kernel) rfl), rfl, Or.inl ⟨(gw 789 (by decide +kernel) rfl), selw G (gw 208 (by decide +kernel) rfl)⟩⟩, fun _ h => absurd h List.not_mem_nil⟩)
set_option maxRecDepth 20000 in
theorem vs_RX11_314 {X : Cx} (G : GC X) : VS X RX11 314 [(98, 1), (6, 78)] := vs_of (List.forall_mem_cons.mpr ⟨⟨iX7_isOfLaneOf, (RX7, TX7, 3, tyX7), mtX7_isOfLaneOf, moX7_isOfLaneOf, rfl, (gw 786 (by decide +kernel) rfl), rfl, Or.inl ⟨(gw 785 (by decide +kernel) rfl), selw G (gw 787 (by decide +kernel) rfl)⟩⟩, fun _ h => absurd h List.not_mem_nil⟩)
set_option maxRecDepth 20000 in
theorem vs_RX11_325 {X : Cx} (G : GC X) : VS X RX11 325 [(98, 1), (4, 52), (7, 93), (8, 97)] := vs_of (List.forall_mem_cons.mpr ⟨⟨iX5_telling, (RX5, TX5, 4, tyX5), mtX5_telling, moX5_telling, rfl, (gw 802 (by decide +kernel) rfl), rfl, Or.inl ⟨(gw 801 (by decide +kernel) rfl), selw G (gw 803 (by decide +kernel) rfl)⟩⟩, List.forall_mem_cons.mpr ⟨⟨iX8_telling, (RX8, TX8, 4, tyX8), mtX8_telling, moX8_telling, rfl, (gw 806 (by decide +kernel) rfl), rfl, Or.inr ⟨⟨"BurntPads$Page", "telling", "(LBurntPads$Trace;)I"⟩, "BurntPads$Page", _, _, _, (gw 801 (by decide +kernel) rfl), (gw 804 (by decide +kernel) rfl), (gw 802 (by decide +kernel) rfl), moX5_telling.1, (gw 805 (by decide +kernel) rfl), ⟨by decide +kernel, by decide +kernel⟩, rfl⟩⟩, List.forall_mem_cons.mpr ⟨⟨iX9_telling, (RX9, TX9, 4, tyX9), mtX9_telling, moX9_telling, rfl, (gw 814 (by decide +kernel) rfl), rfl, Or.inr ⟨⟨"BurntPads$Page", "telling", "(LBurntPads$Trace;)I"⟩, "BurntPads$Page", _, _, _, (gw 801 (by decide +kernel) rfl), (gw 804 (by decide +kernel) rfl), (gw 802 (by decide +kernel) rfl), moX5_telling.1, (gw 813 (by decide +kernel) rfl), ⟨by decide +kernel, by decide +kernel⟩, rfl⟩⟩, fun _ h => absurd h List.not_mem_nil⟩⟩⟩)
set_option maxRecDepth 20000 in
theorem vs_RX11_329 {X : Cx} (G : GC X) : VS X RX11 329 [(98, 1), (4, 54), (7, 54), (8, 98)] := vs_of (List.forall_mem_cons.mpr ⟨⟨iX5_marking, (RX5, TX5, 4, tyX5), mtX5_marking, moX5_marking, rfl, (gw 833 (by decide +kernel) rfl), rfl, Or.inl ⟨(gw 832 (by decide +kernel) rfl), selw G (gw 834 (by decide +kernel) rfl)⟩⟩, List.forall_mem_cons.mpr ⟨⟨iX5_marking, (RX8, TX8, 4, tyX8), mtX5_marking, moX5_marking, rfl, (gw 833 (by decide +kernel) rfl), rfl, Or.inl ⟨(gw 832 (by decide +kernel) rfl), selw G (gw 836 (by decide +kernel) rfl)⟩⟩, List.forall_mem_cons.mpr ⟨⟨iX9_marking, (RX9, TX9, 4, tyX9), mtX9_marking, moX9_marking, rfl, (gw 838 (by decide +kernel) rfl), rfl, Or.inr ⟨⟨"BurntPads$Page", "marking", "(LBurntPads$Trace;)I"⟩, "BurntPads$Page", _, _, _, (gw 832 (by decide +kernel) rfl), (gw 835 (by decide +kernel) rfl), (gw 833 (by decide +kernel) rfl), moX5_marking.1, (gw 837 (by decide +kernel) rfl), ⟨by decide +kernel, by decide +kernel⟩, rfl⟩⟩, fun _ h => absurd h List.not_mem_nil⟩⟩⟩)
set_option maxRecDepth 20000 in
theorem fs_RX11_332 : FS RX11 332 [(9, 0)] := List.forall_mem_cons.mpr ⟨⟨(RX10, TX10, 1, tyX10), rfl, by decide, gw 81 (by decide +kernel) rfl⟩, fun _ h => absurd h List.not_mem_nil⟩
set_option maxRecDepth 20000 in
theorem vs_RX11_335 {X : Cx} (G : GC X) : VS X RX11 335 [(98, 0), (0, 4)] := vs_of (List.forall_mem_cons.mpr ⟨⟨iX0_codeCount, (RX0, TX0, 5, tyX0), mtX0_codeCount, moX0_codeCount, rfl, (gw 858 (by decide +kernel) rfl), rfl, Or.inl ⟨(gw 857 (by decide +kernel) rfl), selw G (gw 859 (by decide +kernel) rfl)⟩⟩, fun _ h => absurd h List.not_mem_nil⟩)
set_option maxRecDepth 20000 in
theorem ps_RX11_344 {X : Cx} (G : GC X) : PS X RX11 344 [(98, 3), (0, 49), (204, 0), (207, 0), (208, 0)] := ps_init mtX5_init moX5_init rfl (gw 348 (by decide +kernel) rfl) rfl rfl (Or.inl (gw 378 (by decide +kernel) rfl)) (by decide)
set_option maxRecDepth 20000 in
theorem ps_RX11_343 {X : Cx} (G : GC X) : PS X RX11 343 [(98, 3), (0, 94), (208, 0)] := ps_init mtX9_init moX9_init rfl (gw 369 (by decide +kernel) rfl) rfl rfl (Or.inl (gw 368 (by decide +kernel) rfl)) (by decide)
set_option maxRecDepth 20000 in
theorem ps_RX11_340 {X : Cx} (G : GC X) : PS X RX11 340 [(98, 3), (0, 90), (207, 0), (208, 0)] := ps_init mtX8_init moX8_init rfl (gw 345 (by decide +kernel) rfl) rfl rfl (Or.inl (gw 344 (by decide +kernel) rfl)) (by decide)
set_option maxRecDepth 20000 in
theorem ss_RX11_345 {X : Cx} (G : GC X) : SS X RX11 345 [(98, 2), (0, 27)] ∧ ([(98, 2), (0, 27)].lookup 0 = some 1000 → GW (.methodLink RX11 345 arraycopyName) ∧ GW (.native arraycopyName) ∧ GW (.static arraycopyName) ∧ GW (.initialized "java/lang/System")) := ss_of mtX1_inCheck moX1_inCheck rfl (gw 477 (by decide +kernel) rfl) (Or.inl (gw 538 (by decide +kernel) rfl)) (by decide)
set_option maxRecDepth 20000 in
theorem fs_RX12_64 : FS RX12 64 [(11, 28)] := List.forall_mem_cons.mpr ⟨⟨(RX12, TX12, 33, tyX12), rfl, by decide, gw 895 (by decide +kernel) rfl⟩, fun _ h => absurd h List.not_mem_nil⟩
set_option maxRecDepth 20000 in
theorem fs_RX12_16 : FS RX12 16 [(11, 3)] := List.forall_mem_cons.mpr ⟨⟨(RX12, TX12, 33, tyX12), rfl, by decide, gw 870 (by decide +kernel) rfl⟩, fun _ h => absurd h List.not_mem_nil⟩
set_option maxRecDepth 20000 in
theorem fs_RX12_7 : FS RX12 7 [(11, 1)] := List.forall_mem_cons.mpr ⟨⟨(RX12, TX12, 33, tyX12), rfl, by decide, gw 868 (by decide +kernel) rfl⟩, fun _ h => absurd h List.not_mem_nil⟩
set_option maxRecDepth 20000 in
theorem fs_RX12_80 : FS RX12 80 [(11, 5)] := List.forall_mem_cons.mpr ⟨⟨(RX12, TX12, 33, tyX12), rfl, by decide, gw 872 (by decide +kernel) rfl⟩, fun _ h => absurd h List.not_mem_nil⟩
set_option maxRecDepth 20000 in
theorem fs_RX12_76 : FS RX12 76 [(11, 4)] := List.forall_mem_cons.mpr ⟨⟨(RX12, TX12, 33, tyX12), rfl, by decide, gw 871 (by decide +kernel) rfl⟩, fun _ h => absurd h List.not_mem_nil⟩
set_option maxRecDepth 20000 in
theorem fs_RX12_73 : FS RX12 73 [(11, 31)] := List.forall_mem_cons.mpr ⟨⟨(RX12, TX12, 33, tyX12), rfl, by decide, gw 898 (by decide +kernel) rfl⟩, fun _ h => absurd h List.not_mem_nil⟩
set_option maxRecDepth 20000 in
theorem fs_RX12_70 : FS RX12 70 [(11, 30)] := List.forall_mem_cons.mpr ⟨⟨(RX12, TX12, 33, tyX12), rfl, by decide, gw 897 (by decide +kernel) rfl⟩, fun _ h => absurd h List.not_mem_nil⟩
set_option maxRecDepth 20000 in
theorem fs_RX12_67 : FS RX12 67 [(11, 29)] := List.forall_mem_cons.mpr ⟨⟨(RX12, TX12, 33, tyX12), rfl, by decide, gw 896 (by decide +kernel) rfl⟩, fun _ h => absurd h List.not_mem_nil⟩
set_option maxRecDepth 20000 in
theorem fs_RX12_61 : FS RX12 61 [(11, 27)] := List.forall_mem_cons.mpr ⟨⟨(RX12, TX12, 33, tyX12), rfl, by decide, gw 894 (by decide +kernel) rfl⟩, fun _ h => absurd h List.not_mem_nil⟩
set_option maxRecDepth 20000 in
theorem fs_RX12_58 : FS RX12 58 [(11, 26)] := List.forall_mem_cons.mpr ⟨⟨(RX12, TX12, 33, tyX12), rfl, by decide, gw 893 (by decide +kernel) rfl⟩, fun _ h => absurd h List.not_mem_nil⟩
set_option maxRecDepth 20000 in
theorem fs_RX12_55 : FS RX12 55 [(11, 25)] := List.forall_mem_cons.mpr ⟨⟨(RX12, TX12, 33, tyX12), rfl, by decide, gw 892 (by decide +kernel) rfl⟩, fun _ h => absurd h List.not_mem_nil⟩
set_option maxRecDepth 20000 in
theorem fs_RX12_52 : FS RX12 52 [(11, 23)] := List.forall_mem_cons.mpr ⟨⟨(RX12, TX12, 33, tyX12), rfl, by decide, gw 890 (by decide +kernel) rfl⟩, fun _ h => absurd h List.not_mem_nil⟩
set_option maxRecDepth 20000 in
theorem fs_RX12_49 : FS RX12 49 [(11, 22)] := List.forall_mem_cons.mpr ⟨⟨(RX12, TX12, 33, tyX12), rfl, by decide, gw 889 (by decide +kernel) rfl⟩, fun _ h => absurd h List.not_mem_nil⟩
set_option maxRecDepth 20000 in
theorem fs_RX12_46 : FS RX12 46 [(11, 20)] := List.forall_mem_cons.mpr ⟨⟨(RX12, TX12, 33, tyX12), rfl, by decide, gw 887 (by decide +kernel) rfl⟩, fun _ h => absurd h List.not_mem_nil⟩
set_option maxRecDepth 20000 in
theorem fs_RX12_43 : FS RX12 43 [(11, 19)] := List.forall_mem_cons.mpr ⟨⟨(RX12, TX12, 33, tyX12), rfl, by decide, gw 886 (by decide +kernel) rfl⟩, fun _ h => absurd h List.not_mem_nil⟩
set_option maxRecDepth 20000 in
theorem fs_RX12_40 : FS RX12 40 [(11, 18)] := List.forall_mem_cons.mpr ⟨⟨(RX12, TX12, 33, tyX12), rfl, by decide, gw 885 (by decide +kernel) rfl⟩, fun _ h => absurd h List.not_mem_nil⟩
set_option maxRecDepth 20000 in
theorem fs_RX12_37 : FS RX12 37 [(11, 17)] := List.forall_mem_cons.mpr ⟨⟨(RX12, TX12, 33, tyX12), rfl, by decide, gw 884 (by decide +kernel) rfl⟩, fun _ h => absurd h List.not_mem_nil⟩
set_option maxRecDepth 20000 in
theorem fs_RX12_34 : FS RX12 34 [(11, 15)] := List.forall_mem_cons.mpr ⟨⟨(RX12, TX12, 33, tyX12), rfl, by decide, gw 882 (by decide +kernel) rfl⟩, fun _ h => absurd h List.not_mem_nil⟩
set_option maxRecDepth 20000 in
theorem fs_RX12_31 : FS RX12 31 [(11, 14)] := List.forall_mem_cons.mpr ⟨⟨(RX12, TX12, 33, tyX12), rfl, by decide, gw 881 (by decide +kernel) rfl⟩, fun _ h => absurd h List.not_mem_nil⟩
set_option maxRecDepth 20000 in
theorem fs_RX12_28 : FS RX12 28 [(11, 13)] := List.forall_mem_cons.mpr ⟨⟨(RX12, TX12, 33, tyX12), rfl, by decide, gw 880 (by decide +kernel) rfl⟩, fun _ h => absurd h List.not_mem_nil⟩
set_option maxRecDepth 20000 in
theorem fs_RX12_25 : FS RX12 25 [(11, 12)] := List.forall_mem_cons.mpr ⟨⟨(RX12, TX12, 33, tyX12), rfl, by decide, gw 879 (by decide +kernel) rfl⟩, fun _ h => absurd h List.not_mem_nil⟩
set_option maxRecDepth 20000 in
theorem fs_RX12_22 : FS RX12 22 [(11, 11)] := List.forall_mem_cons.mpr ⟨⟨(RX12, TX12, 33, tyX12), rfl, by decide, gw 878 (by decide +kernel) rfl⟩, fun _ h => absurd h List.not_mem_nil⟩
set_option maxRecDepth 20000 in
theorem fs_RX12_19 : FS RX12 19 [(11, 8)] := List.forall_mem_cons.mpr ⟨⟨(RX12, TX12, 33, tyX12), rfl, by decide, gw 875 (by decide +kernel) rfl⟩, fun _ h => absurd h List.not_mem_nil⟩
set_option maxRecDepth 20000 in
theorem fs_RX12_13 : FS RX12 13 [(11, 2)] := List.forall_mem_cons.mpr ⟨⟨(RX12, TX12, 33, tyX12), rfl, by decide, gw 869 (by decide +kernel) rfl⟩, fun _ h => absurd h List.not_mem_nil⟩
set_option maxRecDepth 20000 in
theorem po_RX12_1 {X : Cx} : PS X RX12 1 [(98, 0), (0, 1001)] := ps_obj ⟨(gw 866 (by decide +kernel) rfl), (gw 22 (by decide +kernel) rfl), (gw 23 (by decide +kernel) rfl)⟩
set_option maxRecDepth 20000 in
theorem fs_RX12_85 : FS RX12 85 [(11, 0)] := List.forall_mem_cons.mpr ⟨⟨(RX12, TX12, 33, tyX12), rfl, by decide, gw 867 (by decide +kernel) rfl⟩, fun _ h => absurd h List.not_mem_nil⟩
set_option maxRecDepth 20000 in
theorem ss_RX12_88 {X : Cx} (G : GC X) : SS X RX12 88 [(98, 0), (0, 148)] ∧ ([(98, 0), (0, 148)].lookup 0 = some 1000 → GW (.methodLink RX12 88 arraycopyName) ∧ GW (.native arraycopyName) ∧ GW (.static arraycopyName) ∧ GW (.initialized "java/lang/System")) := ss_of mtX12_lost moX12_lost rfl (gw 1161 (by decide +kernel) rfl) (Or.inl (gw 1160 (by decide +kernel) rfl)) (by decide)
set_option maxRecDepth 20000 in
theorem vs_RX12_102 {X : Cx} (G : GC X) : VS X RX12 102 [(98, 1), (11, 153)] := vs_of (List.forall_mem_cons.mpr ⟨⟨iX12_failed, (RX12, TX12, 33, tyX12), mtX12_failed, moX12_failed, rfl, (gw 1003 (by decide +kernel) rfl), rfl, Or.inl ⟨(gw 1001 (by decide +kernel) rfl), selw G (gwp (y := yX12_failed) (n := 33) (by decide +kernel))⟩⟩, fun _ h => absurd h List.not_mem_nil⟩)
set_option maxRecDepth 20000 in
theorem ss_RX12_105 {X : Cx} (G : GC X) : SS X RX12 105 [(98, 3), (0, 214)] ∧ ([(98, 3), (0, 214)].lookup 0 = some 1000 → GW (.methodLink RX12 105 arraycopyName) ∧ GW (.native arraycopyName) ∧ GW (.static arraycopyName) ∧ GW (.initialized "java/lang/System")) := ss_of mtX12_isBeyond moX12_isBeyond rfl (gw 1006 (by decide +kernel) rfl) (Or.inl (gw 1005 (by decide +kernel) rfl)) (by decide)
set_option maxRecDepth 20000 in
theorem vs_RX12_98 {X : Cx} (G : GC X) : VS X RX12 98 [(98, 1), (11, 152)] := vs_of (List.forall_mem_cons.mpr ⟨⟨iX12_refused, (RX12, TX12, 33, tyX12), mtX12_refused, moX12_refused, rfl, (gw 994 (by decide +kernel) rfl), rfl, Or.inl ⟨(gw 992 (by decide +kernel) rfl), selw G (gwp (y := yX12_refused) (n := 33) (by decide +kernel))⟩⟩, fun _ h => absurd h List.not_mem_nil⟩)
set_option maxRecDepth 20000 in
theorem ss_RX12_94 {X : Cx} (G : GC X) : SS X RX12 94 [(98, 3), (0, 147)] ∧ ([(98, 3), (0, 147)].lookup 0 = some 1000 → GW (.methodLink RX12 94 arraycopyName) ∧ GW (.native arraycopyName) ∧ GW (.static arraycopyName) ∧ GW (.initialized "java/lang/System")) := ss_of mtX12_in moX12_in rfl (gw 976 (by decide +kernel) rfl) (Or.inl (gw 975 (by decide +kernel) rfl)) (by decide)
set_option maxRecDepth 20000 in
theorem ss_RX12_113 {X : Cx} (G : GC X) : SS X RX12 113 [(98, 1), (0, 156)] ∧ ([(98, 1), (0, 156)].lookup 0 = some 1000 → GW (.methodLink RX12 113 arraycopyName) ∧ GW (.native arraycopyName) ∧ GW (.static arraycopyName) ∧ GW (.initialized "java/lang/System")) := ss_of mtX12_noWord moX12_noWord rfl (gw 972 (by decide +kernel) rfl) (Or.inl (gw 971 (by decide +kernel) rfl)) (by decide)
set_option maxRecDepth 20000 in
theorem fs_RX12_119 : FS RX12 119 [(11, 9)] := List.forall_mem_cons.mpr ⟨⟨(RX12, TX12, 33, tyX12), rfl, by decide, gw 876 (by decide +kernel) rfl⟩, fun _ h => absurd h List.not_mem_nil⟩
set_option maxRecDepth 20000 in
theorem vs_RX12_131 {X : Cx} (G : GC X) : VS X RX12 131 [(98, 3), (11, 161)] := vs_of (List.forall_mem_cons.mpr ⟨⟨iX12_readsNumber, (RX12, TX12, 33, tyX12), mtX12_readsNumber, moX12_readsNumber, rfl, (gw 1017 (by decide +kernel) rfl), rfl, Or.inl ⟨(gw 1015 (by decide +kernel) rfl), selw G (gwp (y := yX12_readsNumber) (n := 33) (by decide +kernel))⟩⟩, fun _ h => absurd h List.not_mem_nil⟩)
set_option maxRecDepth 20000 in
theorem ss_RX12_128 {X : Cx} (G : GC X) : SS X RX12 128 [(98, 1), (0, 160)] ∧ ([(98, 1), (0, 160)].lookup 0 = some 1000 → GW (.methodLink RX12 128 arraycopyName) ∧ GW (.native arraycopyName) ∧ GW (.static arraycopyName) ∧ GW (.initialized "java/lang/System")) := ss_of mtX12_letterOf moX12_letterOf rfl (gw 1013 (by decide +kernel) rfl) (Or.inl (gw 1012 (by decide +kernel) rfl)) (by decide)
set_option maxRecDepth 20000 in
theorem fs_RX12_149 : FS RX12 149 [(11, 7)] := List.forall_mem_cons.mpr ⟨⟨(RX12, TX12, 33, tyX12), rfl, by decide, gw 874 (by decide +kernel) rfl⟩, fun _ h => absurd h List.not_mem_nil⟩
set_option maxRecDepth 20000 in
theorem fs_RX12_146 : FS RX12 146 [(11, 6)] := List.forall_mem_cons.mpr ⟨⟨(RX12, TX12, 33, tyX12), rfl, by decide, gw 873 (by decide +kernel) rfl⟩, fun _ h => absurd h List.not_mem_nil⟩
set_option maxRecDepth 20000 in
theorem vs_RX12_142 {X : Cx} (G : GC X) : VS X RX12 142 [(98, 2), (11, 162)] := vs_of (List.forall_mem_cons.mpr ⟨⟨iX12_readDrill, (RX12, TX12, 33, tyX12), mtX12_readDrill, moX12_readDrill, rfl, (gw 1010 (by decide +kernel) rfl), rfl, Or.inl ⟨(gw 1008 (by decide +kernel) rfl), selw G (gwp (y := yX12_readDrill) (n := 33) (by decide +kernel))⟩⟩, fun _ h => absurd h List.not_mem_nil⟩)
set_option maxRecDepth 20000 in
theorem vs_RX12_138 {X : Cx} (G : GC X) : VS X RX12 138 [(98, 4), (11, 155)] := vs_of (List.forall_mem_cons.mpr ⟨⟨iX12_barred, (RX12, TX12, 33, tyX12), mtX12_barred, moX12_barred, rfl, (gw 998 (by decide +kernel) rfl), rfl, Or.inl ⟨(gw 996 (by decide +kernel) rfl), selw G (gwp (y := yX12_barred) (n := 33) (by decide +kernel))⟩⟩, fun _ h => absurd h List.not_mem_nil⟩)
set_option maxRecDepth 20000 in
theorem ss_RX12_135 {X : Cx} (G : GC X) : SS X RX12 135 [(98, 1), (0, 208)] ∧ ([(98, 1), (0, 208)].lookup 0 = some 1000 → GW (.methodLink RX12 135 arraycopyName) ∧ GW (.native arraycopyName) ∧ GW (.static arraycopyName) ∧ GW (.initialized "java/lang/System")) := ss_of mtX12_noSheet moX12_noSheet rfl (gw 989 (by decide +kernel) rfl) (Or.inl (gw 988 (by decide +kernel) rfl)) (by decide)
set_option maxRecDepth 20000 in
theorem fs_RX12_152 : FS RX12 152 [(11, 10)] := List.forall_mem_cons.mpr ⟨⟨(RX12, TX12, 33, tyX12), rfl, by decide, gw 877 (by decide +kernel) rfl⟩, fun _ h => absurd h List.not_mem_nil⟩
set_option maxRecDepth 20000 in
theorem ss_RX12_157 {X : Cx} (G : GC X) : SS X RX12 157 [(98, 1), (0, 157)] ∧ ([(98, 1), (0, 157)].lookup 0 = some 1000 → GW (.methodLink RX12 157 arraycopyName) ∧ GW (.native arraycopyName) ∧ GW (.static arraycopyName) ∧ GW (.initialized "java/lang/System")) := ss_of mtX12_isGroup moX12_isGroup rfl (gw 1040 (by decide +kernel) rfl) (Or.inl (gw 1039 (by decide +kernel) rfl)) (by decide)
set_option maxRecDepth 20000 in
theorem vs_RX12_165 {X : Cx} (G : GC X) : VS X RX12 165 [(98, 2), (11, 167)] := vs_of (List.forall_mem_cons.mpr ⟨⟨iX12_areGroups, (RX12, TX12, 33, tyX12), mtX12_areGroups, moX12_areGroups, rfl, (gw 1037 (by decide +kernel) rfl), rfl, Or.inl ⟨(gw 1035 (by decide +kernel) rfl), selw G (gwp (y := yX12_areGroups) (n := 33) (by decide +kernel))⟩⟩, fun _ h => absurd h List.not_mem_nil⟩)
set_option maxRecDepth 20000 in
theorem ss_RX12_160 {X : Cx} (G : GC X) : SS X RX12 160 [(98, 1), (0, 166)] ∧ ([(98, 1), (0, 166)].lookup 0 = some 1000 → GW (.methodLink RX12 160 arraycopyName) ∧ GW (.native arraycopyName) ∧ GW (.static arraycopyName) ∧ GW (.initialized "java/lang/System")) := ss_of mtX12_noPost moX12_noPost rfl (gw 1031 (by decide +kernel) rfl) (Or.inl (gw 1030 (by decide +kernel) rfl)) (by decide)
set_option maxRecDepth 20000 in
theorem vs_RX12_172 {X : Cx} (G : GC X) : VS X RX12 172 [(98, 1), (11, 169)] := vs_of (List.forall_mem_cons.mpr ⟨⟨iX12_usable, (RX12, TX12, 33, tyX12), mtX12_usable, moX12_usable, rfl, (gw 1052 (by decide +kernel) rfl), rfl, Or.inl ⟨(gw 1050 (by decide +kernel) rfl), selw G (gwp (y := yX12_usable) (n := 33) (by decide +kernel))⟩⟩, fun _ h => absurd h List.not_mem_nil⟩)
set_option maxRecDepth 20000 in
theorem vs_RX12_169 {X : Cx} (G : GC X) : VS X RX12 169 [(98, 1), (11, 165)] := vs_of (List.forall_mem_cons.mpr ⟨⟨iX12_noPage, (RX12, TX12, 33, tyX12), mtX12_noPage, moX12_noPage, rfl, (gw 1048 (by decide +kernel) rfl), rfl, Or.inl ⟨(gw 1046 (by decide +kernel) rfl), selw G (gwp (y := yX12_noPage) (n := 33) (by decide +kernel))⟩⟩, fun _ h => absurd h List.not_mem_nil⟩)
set_option maxRecDepth 20000 in
theorem fs_RX12_179 : FS RX12 179 [(11, 16)] := List.forall_mem_cons.mpr ⟨⟨(RX12, TX12, 33, tyX12), rfl, by decide, gw 883 (by decide +kernel) rfl⟩, fun _ h => absurd h List.not_mem_nil⟩
set_option maxRecDepth 20000 in
theorem fs_RX12_182 : FS RX12 182 [(11, 21)] := List.forall_mem_cons.mpr ⟨⟨(RX12, TX12, 33, tyX12), rfl, by decide, gw 888 (by decide +kernel) rfl⟩, fun _ h => absurd h List.not_mem_nil⟩
set_option maxRecDepth 20000 in
theorem vs_RX12_185 {X : Cx} (G : GC X) : VS X RX12 185 [(98, 1), (11, 173)] := vs_of (List.forall_mem_cons.mpr ⟨⟨iX12_layGroup, (RX12, TX12, 33, tyX12), mtX12_layGroup, moX12_layGroup, rfl, (gw 1074 (by decide +kernel) rfl), rfl, Or.inl ⟨(gw 1072 (by decide +kernel) rfl), selw G (gwp (y := yX12_layGroup) (n := 33) (by decide +kernel))⟩⟩, fun _ h => absurd h List.not_mem_nil⟩)
set_option maxRecDepth 20000 in
theorem vs_RX12_189 {X : Cx} (G : GC X) : VS X RX12 189 [(98, 1), (11, 174)] := vs_of (List.forall_mem_cons.mpr ⟨⟨iX12_checkOf, (RX12, TX12, 33, tyX12), mtX12_checkOf, moX12_checkOf, rfl, (gw 1078 (by decide +kernel) rfl), rfl, Or.inl ⟨(gw 1076 (by decide +kernel) rfl), selw G (gwp (y := yX12_checkOf) (n := 33) (by decide +kernel))⟩⟩, fun _ h => absurd h List.not_mem_nil⟩)
set_option maxRecDepth 20000 in
theorem ss_RX12_202 {X : Cx} (G : GC X) : SS X RX12 202 [(98, 1), (0, 150)] ∧ ([(98, 1), (0, 150)].lookup 0 = some 1000 → GW (.methodLink RX12 202 arraycopyName) ∧ GW (.native arraycopyName) ∧ GW (.static arraycopyName) ∧ GW (.initialized "java/lang/System")) := ss_of mtX12_rest moX12_rest rfl (gw 1081 (by decide +kernel) rfl) (Or.inl (gw 1080 (by decide +kernel) rfl)) (by decide)
set_option maxRecDepth 20000 in
theorem vs_RX12_198 {X : Cx} (G : GC X) : VS X RX12 198 [(98, 2), (11, 175)] := vs_of (List.forall_mem_cons.mpr ⟨⟨iX12_layWords, (RX12, TX12, 33, tyX12), mtX12_layWords, moX12_layWords, rfl, (gw 1070 (by decide +kernel) rfl), rfl, Or.inl ⟨(gw 1068 (by decide +kernel) rfl), selw G (gwp (y := yX12_layWords) (n := 33) (by decide +kernel))⟩⟩, fun _ h => absurd h List.not_mem_nil⟩)
set_option maxRecDepth 20000 in
theorem vs_RX12_195 {X : Cx} (G : GC X) : VS X RX12 195 [(98, 2), (11, 176)] := vs_of (List.forall_mem_cons.mpr ⟨⟨iX12_areWords, (RX12, TX12, 33, tyX12), mtX12_areWords, moX12_areWords, rfl, (gw 1066 (by decide +kernel) rfl), rfl, Or.inl ⟨(gw 1064 (by decide +kernel) rfl), selw G (gwp (y := yX12_areWords) (n := 33) (by decide +kernel))⟩⟩, fun _ h => absurd h List.not_mem_nil⟩)
set_option maxRecDepth 20000 in
theorem vs_RX12_192 {X : Cx} (G : GC X) : VS X RX12 192 [(98, 1), (11, 172)] := vs_of (List.forall_mem_cons.mpr ⟨⟨iX12_isDay, (RX12, TX12, 33, tyX12), mtX12_isDay, moX12_isDay, rfl, (gw 1062 (by decide +kernel) rfl), rfl, Or.inl ⟨(gw 1060 (by decide +kernel) rfl), selw G (gwp (y := yX12_isDay) (n := 33) (by decide +kernel))⟩⟩, fun _ h => absurd h List.not_mem_nil⟩)
set_option maxRecDepth 20000 in
theorem vs_RX12_205 {X : Cx} (G : GC X) : VS X RX12 205 [(98, 1), (11, 171)] := vs_of (List.forall_mem_cons.mpr ⟨⟨iX12_noLetter, (RX12, TX12, 33, tyX12), mtX12_noLetter, moX12_noLetter, rfl, (gw 1089 (by decide +kernel) rfl), rfl, Or.inl ⟨(gw 1087 (by decide +kernel) rfl), selw G (gwp (y := yX12_noLetter) (n := 33) (by decide +kernel))⟩⟩, fun _ h => absurd h List.not_mem_nil⟩)
set_option maxRecDepth 20000 in
theorem ss_RX12_210 {X : Cx} (G : GC X) : SS X RX12 210 [(98, 2), (0, 149)] ∧ ([(98, 2), (0, 149)].lookup 0 = some 1000 → GW (.methodLink RX12 210 arraycopyName) ∧ GW (.native arraycopyName) ∧ GW (.static arraycopyName) ∧ GW (.initialized "java/lang/System")) := ss_of mtX12_lesser moX12_lesser rfl (gw 1097 (by decide +kernel) rfl) (Or.inl (gw 1096 (by decide +kernel) rfl)) (by decide)
set_option maxRecDepth 20000 in
theorem fs_RX12_213 : FS RX12 213 [(11, 24)] := List.forall_mem_cons.mpr ⟨⟨(RX12, TX12, 33, tyX12), rfl, by decide, gw 891 (by decide +kernel) rfl⟩, fun _ h => absurd h List.not_mem_nil⟩
set_option maxRecDepth 20000 in
theorem vs_RX12_216 {X : Cx} (G : GC X) : VS X RX12 216 [(98, 2), (11, 182)] := vs_of (List.forall_mem_cons.mpr ⟨⟨iX12_comesOn, (RX12, TX12, 33, tyX12), mtX12_comesOn, moX12_comesOn, rfl, (gw 1118 (by decide +kernel) rfl), rfl, Or.inl ⟨(gw 1116 (by decide +kernel) rfl), selw G (gwp (y := yX12_comesOn) (n := 33) (by decide +kernel))⟩⟩, fun _ h => absurd h List.not_mem_nil⟩)
set_option maxRecDepth 20000 in
theorem vs_RX12_221 {X : Cx} (G : GC X) : VS X RX12 221 [(98, 2), (11, 183)] := vs_of (List.forall_mem_cons.mpr ⟨⟨iX12_outDay, (RX12, TX12, 33, tyX12), mtX12_outDay, moX12_outDay, rfl, (gw 1114 (by decide +kernel) rfl), rfl, Or.inl ⟨(gw 1112 (by decide +kernel) rfl), selw G (gwp (y := yX12_outDay) (n := 33) (by decide +kernel))⟩⟩, fun _ h => absurd h List.not_mem_nil⟩)
set_option maxRecDepth 20000 in
theorem vs_RX12_224 {X : Cx} (G : GC X) : VS X RX12 224 [(98, 2), (11, 185)] := vs_of (List.forall_mem_cons.mpr ⟨⟨iX12_takesFor, (RX12, TX12, 33, tyX12), mtX12_takesFor, moX12_takesFor, rfl, (gw 1126 (by decide +kernel) rfl), rfl, Or.inl ⟨(gw 1124 (by decide +kernel) rfl), selw G (gwp (y := yX12_takesFor) (n := 33) (by decide +kernel))⟩⟩, fun _ h => absurd h List.not_mem_nil⟩)
set_option maxRecDepth 20000 in
theorem vs_RX12_234 {X : Cx} (G : GC X) : VS X RX12 234 [(98, 1), (11, 189)] := vs_of (List.forall_mem_cons.mpr ⟨⟨iX12_pairsBy, (RX12, TX12, 33, tyX12), mtX12_pairsBy, moX12_pairsBy, rfl, (gw 1142 (by decide +kernel) rfl), rfl, Or.inl ⟨(gw 1140 (by decide +kernel) rfl), selw G (gwp (y := yX12_pairsBy) (n := 33) (by decide +kernel))⟩⟩, fun _ h => absurd h List.not_mem_nil⟩)
set_option maxRecDepth 20000 in
theorem vs_RX12_230 {X : Cx} (G : GC X) : VS X RX12 230 [(98, 3), (11, 188)] := vs_of (List.forall_mem_cons.mpr ⟨⟨iX12_differ, (RX12, TX12, 33, tyX12), mtX12_differ, moX12_differ, rfl, (gw 1138 (by decide +kernel) rfl), rfl, Or.inl ⟨(gw 1136 (by decide +kernel) rfl), selw G (gwp (y := yX12_differ) (n := 33) (by decide +kernel))⟩⟩, fun _ h => absurd h List.not_mem_nil⟩)
set_option maxRecDepth 20000 in
theorem vs_RX12_227 {X : Cx} (G : GC X) : VS X RX12 227 [(98, 2), (11, 187)] := vs_of (List.forall_mem_cons.mpr ⟨⟨iX12_placesOf, (RX12, TX12, 33, tyX12), mtX12_placesOf, moX12_placesOf, rfl, (gw 1134 (by decide +kernel) rfl), rfl, Or.inl ⟨(gw 1132 (by decide +kernel) rfl), selw G (gwp (y := yX12_placesOf) (n := 33) (by decide +kernel))⟩⟩, fun _ h => absurd h List.not_mem_nil⟩)
set_option maxRecDepth 20000 in
theorem vs_RX12_239 {X : Cx} (G : GC X) : VS X RX12 239 [(98, 2), (11, 190)] := vs_of (List.forall_mem_cons.mpr ⟨⟨iX12_fitsOf, (RX12, TX12, 33, tyX12), mtX12_fitsOf, moX12_fitsOf, rfl, (gw 1146 (by decide +kernel) rfl), rfl, Or.inl ⟨(gw 1144 (by decide +kernel) rfl), selw G (gwp (y := yX12_fitsOf) (n := 33) (by decide +kernel))⟩⟩, fun _ h => absurd h List.not_mem_nil⟩)
set_option maxRecDepth 20000 in
theorem vs_RX12_242 {X : Cx} (G : GC X) : VS X RX12 242 [(98, 0), (11, 192)] := vs_of (List.forall_mem_cons.mpr ⟨⟨iX12_spreadOf, (RX12, TX12, 33, tyX12), mtX12_spreadOf, moX12_spreadOf, rfl, (gw 1154 (by decide +kernel) rfl), rfl, Or.inl ⟨(gw 1152 (by decide +kernel) rfl), selw G (gwp (y := yX12_spreadOf) (n := 33) (by decide +kernel))⟩⟩, fun _ h => absurd h List.not_mem_nil⟩)
set_option maxRecDepth 20000 in
theorem ss_RX12_250 {X : Cx} (G : GC X) : SS X RX12 250 [(98, 2), (0, 194)] ∧ ([(98, 2), (0, 194)].lookup 0 = some 1000 → GW (.methodLink RX12 250 arraycopyName) ∧ GW (.native arraycopyName) ∧ GW (.static arraycopyName) ∧ GW (.initialized "java/lang/System")) := ss_of mtX12_power moX12_power rfl (gw 1172 (by decide +kernel) rfl) (Or.inl (gw 1171 (by decide +kernel) rfl)) (by decide)
set_option maxRecDepth 20000 in
theorem ss_RX12_246 {X : Cx} (G : GC X) : SS X RX12 246 [(98, 2), (0, 195)] ∧ ([(98, 2), (0, 195)].lookup 0 = some 1000 → GW (.methodLink RX12 246 arraycopyName) ∧ GW (.native arraycopyName) ∧ GW (.static arraycopyName) ∧ GW (.initialized "java/lang/System")) := ss_of mtX12_choose moX12_choose rfl (gw 1169 (by decide +kernel) rfl) (Or.inl (gw 1168 (by decide +kernel) rfl)) (by decide)
set_option maxRecDepth 20000 in
theorem ss_RX12_259 {X : Cx} (G : GC X) : SS X RX12 259 [(98, 3), (0, 151)] ∧ ([(98, 3), (0, 151)].lookup 0 = some 1000 → GW (.methodLink RX12 259 arraycopyName) ∧ GW (.native arraycopyName) ∧ GW (.static arraycopyName) ∧ GW (.initialized "java/lang/System")) := ss_of mtX12_share moX12_share rfl (gw 1176 (by decide +kernel) rfl) (Or.inl (gw 1175 (by decide +kernel) rfl)) (by decide)
set_option maxRecDepth 20000 in
theorem vs_RX12_256 {X : Cx} (G : GC X) : VS X RX12 256 [(98, 2), (11, 196)] := vs_of (List.forall_mem_cons.mpr ⟨⟨iX12_rowsOf, (RX12, TX12, 33, tyX12), mtX12_rowsOf, moX12_rowsOf, rfl, (gw 1166 (by decide +kernel) rfl), rfl, Or.inl ⟨(gw 1164 (by decide +kernel) rfl), selw G (gwp (y := yX12_rowsOf) (n := 33) (by decide +kernel))⟩⟩, fun _ h => absurd h List.not_mem_nil⟩)
set_option maxRecDepth 20000 in
theorem vs_RX12_263 {X : Cx} (G : GC X) : VS X RX12 263 [(98, 5), (11, 201)] := vs_of (List.forall_mem_cons.mpr ⟨⟨iX12_doesMeet, (RX12, TX12, 33, tyX12), mtX12_doesMeet, moX12_doesMeet, rfl, (gw 1196 (by decide +kernel) rfl), rfl, Or.inl ⟨(gw 1194 (by decide +kernel) rfl), selw G (gwp (y := yX12_doesMeet) (n := 33) (by decide +kernel))⟩⟩, fun _ h => absurd h List.not_mem_nil⟩)
set_option maxRecDepth 20000 in
theorem vs_RX12_267 {X : Cx} (G : GC X) : VS X RX12 267 [(98, 3), (11, 204)] := vs_of (List.forall_mem_cons.mpr ⟨⟨iX12_didMake, (RX12, TX12, 33, tyX12), mtX12_didMake, moX12_didMake, rfl, (gw 1208 (by decide +kernel) rfl), rfl, Or.inl ⟨(gw 1206 (by decide +kernel) rfl), selw G (gwp (y := yX12_didMake) (n := 33) (by decide +kernel))⟩⟩, fun _ h => absurd h List.not_mem_nil⟩)
set_option maxRecDepth 20000 in
theorem vs_RX12_270 {X : Cx} (G : GC X) : VS X RX12 270 [(98, 2), (11, 211)] := vs_of (List.forall_mem_cons.mpr ⟨⟨iX12_noCell, (RX12, TX12, 33, tyX12), mtX12_noCell, moX12_noCell, rfl, (gw 1232 (by decide +kernel) rfl), rfl, Or.inl ⟨(gw 1230 (by decide +kernel) rfl), selw G (gwp (y := yX12_noCell) (n := 33) (by decide +kernel))⟩⟩, fun _ h => absurd h List.not_mem_nil⟩)
set_option maxRecDepth 20000 in
theorem vs_RX12_273 {X : Cx} (G : GC X) : VS X RX12 273 [(98, 1), (11, 154)] := vs_of (List.forall_mem_cons.mpr ⟨⟨iX12_failedLong, (RX12, TX12, 33, tyX12), mtX12_failedLong, moX12_failedLong, rfl, (gw 1240 (by decide +kernel) rfl), rfl, Or.inl ⟨(gw 1238 (by decide +kernel) rfl), selw G (gwp (y := yX12_failedLong) (n := 33) (by decide +kernel))⟩⟩, fun _ h => absurd h List.not_mem_nil⟩)
set_option maxRecDepth 20000 in
theorem fs_RX12_277 : FS RX12 277 [(11, 32)] := List.forall_mem_cons.mpr ⟨⟨(RX12, TX12, 33, tyX12), rfl, by decide, gw 899 (by decide +kernel) rfl⟩, fun _ h => absurd h List.not_mem_nil⟩
set_option maxRecDepth 20000 in
theorem vs_RX12_280 {X : Cx} (G : GC X) : VS X RX12 280 [(98, 1), (11, 216)] := vs_of (List.forall_mem_cons.mpr ⟨⟨iX12_traced, (RX12, TX12, 33, tyX12), mtX12_traced, moX12_traced, rfl, (gw 1252 (by decide +kernel) rfl), rfl, Or.inl ⟨(gw 1250 (by decide +kernel) rfl), selw G (gwp (y := yX12_traced) (n := 33) (by decide +kernel))⟩⟩, fun _ h => absurd h List.not_mem_nil⟩)
set_option maxRecDepth 20000 in
theorem vs_RL_161 {X : Cx} (G : GC X) : VS X RL 161 [(98, 1), (11, 222)] := vs_of (List.forall_mem_cons.mpr ⟨⟨iX12_many, (RX12, TX12, 33, tyX12), mtX12_many, moX12_many, rfl, (gw 1271 (by decide +kernel) rfl), rfl, Or.inl ⟨(gw 1270 (by decide +kernel) rfl), selw G (gw 1272 (by decide +kernel) rfl)⟩⟩, fun _ h => absurd h List.not_mem_nil⟩)
set_option maxRecDepth 20000 in
theorem vs_RL_158 {X : Cx} (G : GC X) : VS X RL 158 [(98, 1), (10, 136)] := vs_of (List.forall_mem_cons.mpr ⟨⟨iX11_many, (RX11, TX11, 10, tyX11), mtX11_many, moX11_many, rfl, (gw 854 (by decide +kernel) rfl), rfl, Or.inl ⟨(gw 853 (by decide +kernel) rfl), selw G (gw 855 (by decide +kernel) rfl)⟩⟩, fun _ h => absurd h List.not_mem_nil⟩)
set_option maxRecDepth 20000 in
theorem vs_RL_157 {X : Cx} (G : GC X) : VS X RL 157 [(98, 0), (11, 221)] := vs_of (List.forall_mem_cons.mpr ⟨⟨iX12_fault, (RX12, TX12, 33, tyX12), mtX12_fault, moX12_fault, rfl, (gw 1267 (by decide +kernel) rfl), rfl, Or.inl ⟨(gw 1266 (by decide +kernel) rfl), selw G (gw 1268 (by decide +kernel) rfl)⟩⟩, fun _ h => absurd h List.not_mem_nil⟩)
set_option maxRecDepth 20000 in
theorem vs_RL_154 {X : Cx} (G : GC X) : VS X RL 154 [(98, 0), (10, 135)] := vs_of (List.forall_mem_cons.mpr ⟨⟨iX11_fault, (RX11, TX11, 10, tyX11), mtX11_fault, moX11_fault, rfl, (gw 850 (by decide +kernel) rfl), rfl, Or.inl ⟨(gw 849 (by decide +kernel) rfl), selw G (gw 851 (by decide +kernel) rfl)⟩⟩, fun _ h => absurd h List.not_mem_nil⟩)
set_option maxRecDepth 20000 in
theorem vs_RL_153 {X : Cx} (G : GC X) : VS X RL 153 [(98, 0), (11, 220)] := vs_of (List.forall_mem_cons.mpr ⟨⟨iX12_trace, (RX12, TX12, 33, tyX12), mtX12_trace, moX12_trace, rfl, (gw 1263 (by decide +kernel) rfl), rfl, Or.inl ⟨(gw 1262 (by decide +kernel) rfl), selw G (gw 1264 (by decide +kernel) rfl)⟩⟩, fun _ h => absurd h List.not_mem_nil⟩)
set_option maxRecDepth 20000 in
theorem vs_RL_150 {X : Cx} (G : GC X) : VS X RL 150 [(98, 0), (10, 134)] := vs_of (List.forall_mem_cons.mpr ⟨⟨iX11_trace, (RX11, TX11, 10, tyX11), mtX11_trace, moX11_trace, rfl, (gw 846 (by decide +kernel) rfl), rfl, Or.inl ⟨(gw 845 (by decide +kernel) rfl), selw G (gw 847 (by decide +kernel) rfl)⟩⟩, fun _ h => absurd h List.not_mem_nil⟩)
set_option maxRecDepth 20000 in
theorem vs_RL_149 {X : Cx} (G : GC X) : VS X RL 149 [(98, 2), (11, 219)] := vs_of (List.forall_mem_cons.mpr ⟨⟨iX12_as, (RX12, TX12, 33, tyX12), mtX12_as, moX12_as, rfl, (gw 1259 (by decide +kernel) rfl), rfl, Or.inl ⟨(gw 1258 (by decide +kernel) rfl), selw G (gw 1260 (by decide +kernel) rfl)⟩⟩, fun _ h => absurd h List.not_mem_nil⟩)
set_option maxRecDepth 20000 in
theorem vs_RL_146 {X : Cx} (G : GC X) : VS X RL 146 [(98, 2), (10, 133)] := vs_of (List.forall_mem_cons.mpr ⟨⟨iX11_as, (RX11, TX11, 10, tyX11), mtX11_as, moX11_as, rfl, (gw 842 (by decide +kernel) rfl), rfl, Or.inl ⟨(gw 841 (by decide +kernel) rfl), selw G (gw 843 (by decide +kernel) rfl)⟩⟩, fun _ h => absurd h List.not_mem_nil⟩)
set_option maxRecDepth 20000 in
theorem vs_RL_145 {X : Cx} (G : GC X) : VS X RL 145 [(98, 1), (11, 218)] := vs_of (List.forall_mem_cons.mpr ⟨⟨iX12_mark, (RX12, TX12, 33, tyX12), mtX12_mark, moX12_mark, rfl, (gw 1255 (by decide +kernel) rfl), rfl, Or.inl ⟨(gw 1254 (by decide +kernel) rfl), selw G (gw 1256 (by decide +kernel) rfl)⟩⟩, fun _ h => absurd h List.not_mem_nil⟩)
set_option maxRecDepth 20000 in
theorem vs_RL_142 {X : Cx} (G : GC X) : VS X RL 142 [(98, 1), (10, 132)] := vs_of (List.forall_mem_cons.mpr ⟨⟨iX11_mark, (RX11, TX11, 10, tyX11), mtX11_mark, moX11_mark, rfl, (gw 829 (by decide +kernel) rfl), rfl, Or.inl ⟨(gw 828 (by decide +kernel) rfl), selw G (gw 830 (by decide +kernel) rfl)⟩⟩, fun _ h => absurd h List.not_mem_nil⟩)
set_option maxRecDepth 20000 in
theorem vs_RL_141 {X : Cx} (G : GC X) : VS X RL 141 [(98, 1), (11, 217)] := vs_of (List.forall_mem_cons.mpr ⟨⟨iX12_tell, (RX12, TX12, 33, tyX12), mtX12_tell, moX12_tell, rfl, (gw 1247 (by decide +kernel) rfl), rfl, Or.inl ⟨(gw 1246 (by decide +kernel) rfl), selw G (gw 1248 (by decide +kernel) rfl)⟩⟩, fun _ h => absurd h List.not_mem_nil⟩)
set_option maxRecDepth 20000 in
theorem vs_RL_138 {X : Cx} (G : GC X) : VS X RL 138 [(98, 1), (10, 131)] := vs_of (List.forall_mem_cons.mpr ⟨⟨iX11_tell, (RX11, TX11, 10, tyX11), mtX11_tell, moX11_tell, rfl, (gw 798 (by decide +kernel) rfl), rfl, Or.inl ⟨(gw 797 (by decide +kernel) rfl), selw G (gw 799 (by decide +kernel) rfl)⟩⟩, fun _ h => absurd h List.not_mem_nil⟩)
set_option maxRecDepth 20000 in
theorem vs_RL_137 {X : Cx} (G : GC X) : VS X RL 137 [(98, 5), (11, 215)] := vs_of (List.forall_mem_cons.mpr ⟨⟨iX12_copy, (RX12, TX12, 33, tyX12), mtX12_copy, moX12_copy, rfl, (gw 1243 (by decide +kernel) rfl), rfl, Or.inl ⟨(gw 1242 (by decide +kernel) rfl), selw G (gw 1244 (by decide +kernel) rfl)⟩⟩, fun _ h => absurd h List.not_mem_nil⟩)
set_option maxRecDepth 20000 in
theorem vs_RL_133 {X : Cx} (G : GC X) : VS X RL 133 [(98, 5), (10, 130)] := vs_of (List.forall_mem_cons.mpr ⟨⟨iX11_copy, (RX11, TX11, 10, tyX11), mtX11_copy, moX11_copy, rfl, (gw 782 (by decide +kernel) rfl), rfl, Or.inl ⟨(gw 781 (by decide +kernel) rfl), selw G (gw 783 (by decide +kernel) rfl)⟩⟩, fun _ h => absurd h List.not_mem_nil⟩)
set_option maxRecDepth 20000 in
theorem vs_RL_132 {X : Cx} (G : GC X) : VS X RL 132 [(98, 3), (11, 213)] := vs_of (List.forall_mem_cons.mpr ⟨⟨iX12_cell, (RX12, TX12, 33, tyX12), mtX12_cell, moX12_cell, rfl, (gw 1235 (by decide +kernel) rfl), rfl, Or.inl ⟨(gw 1234 (by decide +kernel) rfl), selw G (gw 1236 (by decide +kernel) rfl)⟩⟩, fun _ h => absurd h List.not_mem_nil⟩)
set_option maxRecDepth 20000 in
theorem vs_RL_129 {X : Cx} (G : GC X) : VS X RL 129 [(98, 3), (10, 129)] := vs_of (List.forall_mem_cons.mpr ⟨⟨iX11_cell, (RX11, TX11, 10, tyX11), mtX11_cell, moX11_cell, rfl, (gw 773 (by decide +kernel) rfl), rfl, Or.inl ⟨(gw 772 (by decide +kernel) rfl), selw G (gw 774 (by decide +kernel) rfl)⟩⟩, fun _ h => absurd h List.not_mem_nil⟩)
set_option maxRecDepth 20000 in
theorem vs_RL_128 {X : Cx} (G : GC X) : VS X RL 128 [(98, 3), (11, 212)] := vs_of (List.forall_mem_cons.mpr ⟨⟨iX12_put, (RX12, TX12, 33, tyX12), mtX12_put, moX12_put, rfl, (gw 1227 (by decide +kernel) rfl), rfl, Or.inl ⟨(gw 1226 (by decide +kernel) rfl), selw G (gw 1228 (by decide +kernel) rfl)⟩⟩, fun _ h => absurd h List.not_mem_nil⟩)
set_option maxRecDepth 20000 in
theorem vs_RL_125 {X : Cx} (G : GC X) : VS X RL 125 [(98, 3), (10, 128)] := vs_of (List.forall_mem_cons.mpr ⟨⟨iX11_put, (RX11, TX11, 10, tyX11), mtX11_put, moX11_put, rfl, (gw 760 (by decide +kernel) rfl), rfl, Or.inl ⟨(gw 759 (by decide +kernel) rfl), selw G (gw 761 (by decide +kernel) rfl)⟩⟩, fun _ h => absurd h List.not_mem_nil⟩)
set_option maxRecDepth 20000 in
theorem vs_RL_124 {X : Cx} (G : GC X) : VS X RL 124 [(98, 1), (11, 210)] := vs_of (List.forall_mem_cons.mpr ⟨⟨iX12_lose, (RX12, TX12, 33, tyX12), mtX12_lose, moX12_lose, rfl, (gw 1223 (by decide +kernel) rfl), rfl, Or.inl ⟨(gw 1222 (by decide +kernel) rfl), selw G (gw 1224 (by decide +kernel) rfl)⟩⟩, fun _ h => absurd h List.not_mem_nil⟩)
set_option maxRecDepth 20000 in
theorem vs_RL_121 {X : Cx} (G : GC X) : VS X RL 121 [(98, 1), (10, 127)] := vs_of (List.forall_mem_cons.mpr ⟨⟨iX11_lose, (RX11, TX11, 10, tyX11), mtX11_lose, moX11_lose, rfl, (gw 751 (by decide +kernel) rfl), rfl, Or.inl ⟨(gw 750 (by decide +kernel) rfl), selw G (gw 752 (by decide +kernel) rfl)⟩⟩, fun _ h => absurd h List.not_mem_nil⟩)
set_option maxRecDepth 20000 in
theorem vs_RL_120 {X : Cx} (G : GC X) : VS X RL 120 [(98, 3), (11, 209)] := vs_of (List.forall_mem_cons.mpr ⟨⟨iX12_sheet, (RX12, TX12, 33, tyX12), mtX12_sheet, moX12_sheet, rfl, (gw 1219 (by decide +kernel) rfl), rfl, Or.inl ⟨(gw 1218 (by decide +kernel) rfl), selw G (gw 1220 (by decide +kernel) rfl)⟩⟩, fun _ h => absurd h List.not_mem_nil⟩)
set_option maxRecDepth 20000 in
theorem vs_RL_117 {X : Cx} (G : GC X) : VS X RL 117 [(98, 3), (10, 126)] := vs_of (List.forall_mem_cons.mpr ⟨⟨iX11_sheet, (RX11, TX11, 10, tyX11), mtX11_sheet, moX11_sheet, rfl, (gw 743 (by decide +kernel) rfl), rfl, Or.inl ⟨(gw 742 (by decide +kernel) rfl), selw G (gw 744 (by decide +kernel) rfl)⟩⟩, fun _ h => absurd h List.not_mem_nil⟩)
set_option maxRecDepth 20000 in
theorem vs_RL_116 {X : Cx} (G : GC X) : VS X RL 116 [(98, 1), (11, 207)] := vs_of (List.forall_mem_cons.mpr ⟨⟨iX12_next, (RX12, TX12, 33, tyX12), mtX12_next, moX12_next, rfl, (gw 1215 (by decide +kernel) rfl), rfl, Or.inl ⟨(gw 1214 (by decide +kernel) rfl), selw G (gw 1216 (by decide +kernel) rfl)⟩⟩, fun _ h => absurd h List.not_mem_nil⟩)
set_option maxRecDepth 20000 in
theorem vs_RL_113 {X : Cx} (G : GC X) : VS X RL 113 [(98, 1), (10, 125)] := vs_of (List.forall_mem_cons.mpr ⟨⟨iX11_next, (RX11, TX11, 10, tyX11), mtX11_next, moX11_next, rfl, (gw 732 (by decide +kernel) rfl), rfl, Or.inl ⟨(gw 731 (by decide +kernel) rfl), selw G (gw 733 (by decide +kernel) rfl)⟩⟩, fun _ h => absurd h List.not_mem_nil⟩)
set_option maxRecDepth 20000 in
theorem vs_RL_112 {X : Cx} (G : GC X) : VS X RL 112 [(98, 2), (11, 206)] := vs_of (List.forall_mem_cons.mpr ⟨⟨iX12_like, (RX12, TX12, 33, tyX12), mtX12_like, moX12_like, rfl, (gw 1211 (by decide +kernel) rfl), rfl, Or.inl ⟨(gw 1210 (by decide +kernel) rfl), selw G (gw 1212 (by decide +kernel) rfl)⟩⟩, fun _ h => absurd h List.not_mem_nil⟩)
set_option maxRecDepth 20000 in
theorem vs_RL_109 {X : Cx} (G : GC X) : VS X RL 109 [(98, 2), (10, 124)] := vs_of (List.forall_mem_cons.mpr ⟨⟨iX11_like, (RX11, TX11, 10, tyX11), mtX11_like, moX11_like, rfl, (gw 721 (by decide +kernel) rfl), rfl, Or.inl ⟨(gw 720 (by decide +kernel) rfl), selw G (gw 722 (by decide +kernel) rfl)⟩⟩, fun _ h => absurd h List.not_mem_nil⟩)
set_option maxRecDepth 20000 in
theorem vs_RL_108 {X : Cx} (G : GC X) : VS X RL 108 [(98, 2), (11, 205)] := vs_of (List.forall_mem_cons.mpr ⟨⟨iX12_makers, (RX12, TX12, 33, tyX12), mtX12_makers, moX12_makers, rfl, (gw 1203 (by decide +kernel) rfl), rfl, Or.inl ⟨(gw 1202 (by decide +kernel) rfl), selw G (gw 1204 (by decide +kernel) rfl)⟩⟩, fun _ h => absurd h List.not_mem_nil⟩)
set_option maxRecDepth 20000 in
theorem vs_RL_105 {X : Cx} (G : GC X) : VS X RL 105 [(98, 2), (10, 123)] := vs_of (List.forall_mem_cons.mpr ⟨⟨iX11_makers, (RX11, TX11, 10, tyX11), mtX11_makers, moX11_makers, rfl, (gw 691 (by decide +kernel) rfl), rfl, Or.inl ⟨(gw 690 (by decide +kernel) rfl), selw G (gw 692 (by decide +kernel) rfl)⟩⟩, fun _ h => absurd h List.not_mem_nil⟩)
set_option maxRecDepth 20000 in
theorem vs_RL_104 {X : Cx} (G : GC X) : VS X RL 104 [(98, 1), (11, 203)] := vs_of (List.forall_mem_cons.mpr ⟨⟨iX12_open, (RX12, TX12, 33, tyX12), mtX12_open, moX12_open, rfl, (gw 1199 (by decide +kernel) rfl), rfl, Or.inl ⟨(gw 1198 (by decide +kernel) rfl), selw G (gw 1200 (by decide +kernel) rfl)⟩⟩, fun _ h => absurd h List.not_mem_nil⟩)
set_option maxRecDepth 20000 in
theorem vs_RL_101 {X : Cx} (G : GC X) : VS X RL 101 [(98, 1), (10, 122)] := vs_of (List.forall_mem_cons.mpr ⟨⟨iX11_open, (RX11, TX11, 10, tyX11), mtX11_open, moX11_open, rfl, (gw 683 (by decide +kernel) rfl), rfl, Or.inl ⟨(gw 682 (by decide +kernel) rfl), selw G (gw 684 (by decide +kernel) rfl)⟩⟩, fun _ h => absurd h List.not_mem_nil⟩)
set_option maxRecDepth 20000 in
theorem vs_RL_100 {X : Cx} (G : GC X) : VS X RL 100 [(98, 7), (11, 202)] := vs_of (List.forall_mem_cons.mpr ⟨⟨iX12_crib, (RX12, TX12, 33, tyX12), mtX12_crib, moX12_crib, rfl, (gw 1191 (by decide +kernel) rfl), rfl, Or.inl ⟨(gw 1190 (by decide +kernel) rfl), selw G (gw 1192 (by decide +kernel) rfl)⟩⟩, fun _ h => absurd h List.not_mem_nil⟩)
set_option maxRecDepth 20000 in
theorem vs_RL_96 {X : Cx} (G : GC X) : VS X RL 96 [(98, 7), (10, 121)] := vs_of (List.forall_mem_cons.mpr ⟨⟨iX11_crib, (RX11, TX11, 10, tyX11), mtX11_crib, moX11_crib, rfl, (gw 674 (by decide +kernel) rfl), rfl, Or.inl ⟨(gw 673 (by decide +kernel) rfl), selw G (gw 675 (by decide +kernel) rfl)⟩⟩, fun _ h => absurd h List.not_mem_nil⟩)
set_option maxRecDepth 20000 in
theorem vs_RL_95 {X : Cx} (G : GC X) : VS X RL 95 [(98, 4), (11, 200)] := vs_of (List.forall_mem_cons.mpr ⟨⟨iX12_with, (RX12, TX12, 33, tyX12), mtX12_with, moX12_with, rfl, (gw 1187 (by decide +kernel) rfl), rfl, Or.inl ⟨(gw 1186 (by decide +kernel) rfl), selw G (gw 1188 (by decide +kernel) rfl)⟩⟩, fun _ h => absurd h List.not_mem_nil⟩)
set_option maxRecDepth 20000 in
theorem vs_RL_92 {X : Cx} (G : GC X) : VS X RL 92 [(98, 4), (10, 120)] := vs_of (List.forall_mem_cons.mpr ⟨⟨iX11_with, (RX11, TX11, 10, tyX11), mtX11_with, moX11_with, rfl, (gw 665 (by decide +kernel) rfl), rfl, Or.inl ⟨(gw 664 (by decide +kernel) rfl), selw G (gw 666 (by decide +kernel) rfl)⟩⟩, fun _ h => absurd h List.not_mem_nil⟩)
set_option maxRecDepth 20000 in
theorem vs_RL_91 {X : Cx} (G : GC X) : VS X RL 91 [(98, 4), (11, 199)] := vs_of (List.forall_mem_cons.mpr ⟨⟨iX12_strip, (RX12, TX12, 33, tyX12), mtX12_strip, moX12_strip, rfl, (gw 1183 (by decide +kernel) rfl), rfl, Or.inl ⟨(gw 1182 (by decide +kernel) rfl), selw G (gw 1184 (by decide +kernel) rfl)⟩⟩, fun _ h => absurd h List.not_mem_nil⟩)
set_option maxRecDepth 20000 in
theorem vs_RL_88 {X : Cx} (G : GC X) : VS X RL 88 [(98, 4), (10, 119)] := vs_of (List.forall_mem_cons.mpr ⟨⟨iX11_strip, (RX11, TX11, 10, tyX11), mtX11_strip, moX11_strip, rfl, (gw 648 (by decide +kernel) rfl), rfl, Or.inl ⟨(gw 647 (by decide +kernel) rfl), selw G (gw 649 (by decide +kernel) rfl)⟩⟩, fun _ h => absurd h List.not_mem_nil⟩)
set_option maxRecDepth 20000 in
theorem vs_RL_87 {X : Cx} (G : GC X) : VS X RL 87 [(98, 1), (11, 198)] := vs_of (List.forall_mem_cons.mpr ⟨⟨iX12_best, (RX12, TX12, 33, tyX12), mtX12_best, moX12_best, rfl, (gw 1179 (by decide +kernel) rfl), rfl, Or.inl ⟨(gw 1178 (by decide +kernel) rfl), selw G (gw 1180 (by decide +kernel) rfl)⟩⟩, fun _ h => absurd h List.not_mem_nil⟩)
set_option maxRecDepth 20000 in
theorem vs_RL_84 {X : Cx} (G : GC X) : VS X RL 84 [(98, 1), (10, 118)] := vs_of (List.forall_mem_cons.mpr ⟨⟨iX11_best, (RX11, TX11, 10, tyX11), mtX11_best, moX11_best, rfl, (gw 643 (by decide +kernel) rfl), rfl, Or.inl ⟨(gw 642 (by decide +kernel) rfl), selw G (gw 644 (by decide +kernel) rfl)⟩⟩, fun _ h => absurd h List.not_mem_nil⟩)
set_option maxRecDepth 20000 in
theorem vs_RL_83 {X : Cx} (G : GC X) : VS X RL 83 [(98, 3), (11, 197)] := vs_of (List.forall_mem_cons.mpr ⟨⟨iX12_chance, (RX12, TX12, 33, tyX12), mtX12_chance, moX12_chance, rfl, (gw 1157 (by decide +kernel) rfl), rfl, Or.inl ⟨(gw 1156 (by decide +kernel) rfl), selw G (gw 1158 (by decide +kernel) rfl)⟩⟩, fun _ h => absurd h List.not_mem_nil⟩)
set_option maxRecDepth 20000 in
theorem vs_RL_79 {X : Cx} (G : GC X) : VS X RL 79 [(98, 3), (10, 117)] := vs_of (List.forall_mem_cons.mpr ⟨⟨iX11_chance, (RX11, TX11, 10, tyX11), mtX11_chance, moX11_chance, rfl, (gw 619 (by decide +kernel) rfl), rfl, Or.inl ⟨(gw 618 (by decide +kernel) rfl), selw G (gw 620 (by decide +kernel) rfl)⟩⟩, fun _ h => absurd h List.not_mem_nil⟩)
set_option maxRecDepth 20000 in
theorem vs_RL_78 {X : Cx} (G : GC X) : VS X RL 78 [(98, 0), (11, 193)] := vs_of (List.forall_mem_cons.mpr ⟨⟨iX12_spread, (RX12, TX12, 33, tyX12), mtX12_spread, moX12_spread, rfl, (gw 1149 (by decide +kernel) rfl), rfl, Or.inl ⟨(gw 1148 (by decide +kernel) rfl), selw G (gw 1150 (by decide +kernel) rfl)⟩⟩, fun _ h => absurd h List.not_mem_nil⟩)
set_option maxRecDepth 20000 in
theorem vs_RL_74 {X : Cx} (G : GC X) : VS X RL 74 [(98, 0), (10, 116)] := vs_of (List.forall_mem_cons.mpr ⟨⟨iX11_spread, (RX11, TX11, 10, tyX11), mtX11_spread, moX11_spread, rfl, (gw 611 (by decide +kernel) rfl), rfl, Or.inl ⟨(gw 610 (by decide +kernel) rfl), selw G (gw 612 (by decide +kernel) rfl)⟩⟩, fun _ h => absurd h List.not_mem_nil⟩)
set_option maxRecDepth 20000 in
theorem vs_RL_73 {X : Cx} (G : GC X) : VS X RL 73 [(98, 3), (11, 191)] := vs_of (List.forall_mem_cons.mpr ⟨⟨iX12_beside, (RX12, TX12, 33, tyX12), mtX12_beside, moX12_beside, rfl, (gw 1129 (by decide +kernel) rfl), rfl, Or.inl ⟨(gw 1128 (by decide +kernel) rfl), selw G (gw 1130 (by decide +kernel) rfl)⟩⟩, fun _ h => absurd h List.not_mem_nil⟩)
set_option maxRecDepth 20000 in
theorem vs_RL_70 {X : Cx} (G : GC X) : VS X RL 70 [(98, 3), (10, 115)] := vs_of (List.forall_mem_cons.mpr ⟨⟨iX11_beside, (RX11, TX11, 10, tyX11), mtX11_beside, moX11_beside, rfl, (gw 586 (by decide +kernel) rfl), rfl, Or.inl ⟨(gw 585 (by decide +kernel) rfl), selw G (gw 587 (by decide +kernel) rfl)⟩⟩, fun _ h => absurd h List.not_mem_nil⟩)
set_option maxRecDepth 20000 in
theorem vs_RL_69 {X : Cx} (G : GC X) : VS X RL 69 [(98, 2), (11, 186)] := vs_of (List.forall_mem_cons.mpr ⟨⟨iX12_last, (RX12, TX12, 33, tyX12), mtX12_last, moX12_last, rfl, (gw 1121 (by decide +kernel) rfl), rfl, Or.inl ⟨(gw 1120 (by decide +kernel) rfl), selw G (gw 1122 (by decide +kernel) rfl)⟩⟩, fun _ h => absurd h List.not_mem_nil⟩)
set_option maxRecDepth 20000 in
theorem vs_RL_66 {X : Cx} (G : GC X) : VS X RL 66 [(98, 2), (10, 114)] := vs_of (List.forall_mem_cons.mpr ⟨⟨iX11_last, (RX11, TX11, 10, tyX11), mtX11_last, moX11_last, rfl, (gw 569 (by decide +kernel) rfl), rfl, Or.inl ⟨(gw 568 (by decide +kernel) rfl), selw G (gw 570 (by decide +kernel) rfl)⟩⟩, fun _ h => absurd h List.not_mem_nil⟩)
set_option maxRecDepth 20000 in
theorem vs_RL_65 {X : Cx} (G : GC X) : VS X RL 65 [(98, 2), (11, 184)] := vs_of (List.forall_mem_cons.mpr ⟨⟨iX12_out, (RX12, TX12, 33, tyX12), mtX12_out, moX12_out, rfl, (gw 1108 (by decide +kernel) rfl), rfl, Or.inl ⟨(gw 1107 (by decide +kernel) rfl), selw G (gw 1109 (by decide +kernel) rfl)⟩⟩, fun _ h => absurd h List.not_mem_nil⟩)
set_option maxRecDepth 20000 in
theorem vs_RL_62 {X : Cx} (G : GC X) : VS X RL 62 [(98, 2), (10, 113)] := vs_of (List.forall_mem_cons.mpr ⟨⟨iX11_out, (RX11, TX11, 10, tyX11), mtX11_out, moX11_out, rfl, (gw 561 (by decide +kernel) rfl), rfl, Or.inl ⟨(gw 560 (by decide +kernel) rfl), selw G (gw 562 (by decide +kernel) rfl)⟩⟩, fun _ h => absurd h List.not_mem_nil⟩)
set_option maxRecDepth 20000 in
theorem vs_RL_61 {X : Cx} (G : GC X) : VS X RL 61 [(98, 3), (11, 181)] := vs_of (List.forall_mem_cons.mpr ⟨⟨iX12_bag, (RX12, TX12, 33, tyX12), mtX12_bag, moX12_bag, rfl, (gw 1104 (by decide +kernel) rfl), rfl, Or.inl ⟨(gw 1103 (by decide +kernel) rfl), selw G (gw 1105 (by decide +kernel) rfl)⟩⟩, fun _ h => absurd h List.not_mem_nil⟩)
set_option maxRecDepth 20000 in
theorem vs_RL_58 {X : Cx} (G : GC X) : VS X RL 58 [(98, 3), (10, 112)] := vs_of (List.forall_mem_cons.mpr ⟨⟨iX11_bag, (RX11, TX11, 10, tyX11), mtX11_bag, moX11_bag, rfl, (gw 549 (by decide +kernel) rfl), rfl, Or.inl ⟨(gw 548 (by decide +kernel) rfl), selw G (gw 550 (by decide +kernel) rfl)⟩⟩, fun _ h => absurd h List.not_mem_nil⟩)
set_option maxRecDepth 20000 in
theorem vs_RL_57 {X : Cx} (G : GC X) : VS X RL 57 [(98, 2), (11, 180)] := vs_of (List.forall_mem_cons.mpr ⟨⟨iX12_need, (RX12, TX12, 33, tyX12), mtX12_need, moX12_need, rfl, (gw 1100 (by decide +kernel) rfl), rfl, Or.inl ⟨(gw 1099 (by decide +kernel) rfl), selw G (gw 1101 (by decide +kernel) rfl)⟩⟩, fun _ h => absurd h List.not_mem_nil⟩)
set_option maxRecDepth 20000 in
theorem vs_RL_54 {X : Cx} (G : GC X) : VS X RL 54 [(98, 2), (10, 111)] := vs_of (List.forall_mem_cons.mpr ⟨⟨iX11_need, (RX11, TX11, 10, tyX11), mtX11_need, moX11_need, rfl, (gw 540 (by decide +kernel) rfl), rfl, Or.inl ⟨(gw 539 (by decide +kernel) rfl), selw G (gw 541 (by decide +kernel) rfl)⟩⟩, fun _ h => absurd h List.not_mem_nil⟩)
set_option maxRecDepth 20000 in
theorem vs_RL_53 {X : Cx} (G : GC X) : VS X RL 53 [(98, 3), (11, 179)] := vs_of (List.forall_mem_cons.mpr ⟨⟨iX12_read, (RX12, TX12, 33, tyX12), mtX12_read, moX12_read, rfl, (gw 1092 (by decide +kernel) rfl), rfl, Or.inl ⟨(gw 1091 (by decide +kernel) rfl), selw G (gw 1093 (by decide +kernel) rfl)⟩⟩, fun _ h => absurd h List.not_mem_nil⟩)
set_option maxRecDepth 20000 in
theorem vs_RL_49 {X : Cx} (G : GC X) : VS X RL 49 [(98, 3), (10, 110)] := vs_of (List.forall_mem_cons.mpr ⟨⟨iX11_read, (RX11, TX11, 10, tyX11), mtX11_read, moX11_read, rfl, (gw 522 (by decide +kernel) rfl), rfl, Or.inl ⟨(gw 521 (by decide +kernel) rfl), selw G (gw 523 (by decide +kernel) rfl)⟩⟩, fun _ h => absurd h List.not_mem_nil⟩)
set_option maxRecDepth 20000 in
theorem vs_RL_48 {X : Cx} (G : GC X) : VS X RL 48 [(98, 2), (11, 178)] := vs_of (List.forall_mem_cons.mpr ⟨⟨iX12_ofLetter, (RX12, TX12, 33, tyX12), mtX12_ofLetter, moX12_ofLetter, rfl, (gw 1084 (by decide +kernel) rfl), rfl, Or.inl ⟨(gw 1083 (by decide +kernel) rfl), selw G (gw 1085 (by decide +kernel) rfl)⟩⟩, fun _ h => absurd h List.not_mem_nil⟩)
set_option maxRecDepth 20000 in
theorem vs_RL_45 {X : Cx} (G : GC X) : VS X RL 45 [(98, 2), (10, 109)] := vs_of (List.forall_mem_cons.mpr ⟨⟨iX11_ofLetter, (RX11, TX11, 10, tyX11), mtX11_ofLetter, moX11_ofLetter, rfl, (gw 505 (by decide +kernel) rfl), rfl, Or.inl ⟨(gw 504 (by decide +kernel) rfl), selw G (gw 506 (by decide +kernel) rfl)⟩⟩, fun _ h => absurd h List.not_mem_nil⟩)
set_option maxRecDepth 20000 in
theorem vs_RL_44 {X : Cx} (G : GC X) : VS X RL 44 [(98, 6), (11, 177)] := vs_of (List.forall_mem_cons.mpr ⟨⟨iX12_letter, (RX12, TX12, 33, tyX12), mtX12_letter, moX12_letter, rfl, (gw 1057 (by decide +kernel) rfl), rfl, Or.inl ⟨(gw 1056 (by decide +kernel) rfl), selw G (gw 1058 (by decide +kernel) rfl)⟩⟩, fun _ h => absurd h List.not_mem_nil⟩)
set_option maxRecDepth 20000 in
theorem vs_RL_41 {X : Cx} (G : GC X) : VS X RL 41 [(98, 6), (10, 108)] := vs_of (List.forall_mem_cons.mpr ⟨⟨iX11_letter, (RX11, TX11, 10, tyX11), mtX11_letter, moX11_letter, rfl, (gw 447 (by decide +kernel) rfl), rfl, Or.inl ⟨(gw 446 (by decide +kernel) rfl), selw G (gw 448 (by decide +kernel) rfl)⟩⟩, fun _ h => absurd h List.not_mem_nil⟩)
set_option maxRecDepth 20000 in
theorem vs_RL_40 {X : Cx} (G : GC X) : VS X RL 40 [(98, 2), (11, 170)] := vs_of (List.forall_mem_cons.mpr ⟨⟨iX12_ofPage, (RX12, TX12, 33, tyX12), mtX12_ofPage, moX12_ofPage, rfl, (gw 1043 (by decide +kernel) rfl), rfl, Or.inl ⟨(gw 1042 (by decide +kernel) rfl), selw G (gw 1044 (by decide +kernel) rfl)⟩⟩, fun _ h => absurd h List.not_mem_nil⟩)
set_option maxRecDepth 20000 in
theorem vs_RL_37 {X : Cx} (G : GC X) : VS X RL 37 [(98, 2), (10, 107)] := vs_of (List.forall_mem_cons.mpr ⟨⟨iX11_ofPage, (RX11, TX11, 10, tyX11), mtX11_ofPage, moX11_ofPage, rfl, (gw 385 (by decide +kernel) rfl), rfl, Or.inl ⟨(gw 384 (by decide +kernel) rfl), selw G (gw 386 (by decide +kernel) rfl)⟩⟩, fun _ h => absurd h List.not_mem_nil⟩)
set_option maxRecDepth 20000 in
theorem vs_RL_36 {X : Cx} (G : GC X) : VS X RL 36 [(98, 6), (11, 168)] := vs_of (List.forall_mem_cons.mpr ⟨⟨iX12_page, (RX12, TX12, 33, tyX12), mtX12_page, moX12_page, rfl, (gw 1027 (by decide +kernel) rfl), rfl, Or.inl ⟨(gw 1026 (by decide +kernel) rfl), selw G (gw 1028 (by decide +kernel) rfl)⟩⟩, fun _ h => absurd h List.not_mem_nil⟩)
set_option maxRecDepth 20000 in
theorem vs_RL_32 {X : Cx} (G : GC X) : VS X RL 32 [(98, 6), (10, 106)] := vs_of (List.forall_mem_cons.mpr ⟨⟨iX11_page, (RX11, TX11, 10, tyX11), mtX11_page, moX11_page, rfl, (gw 321 (by decide +kernel) rfl), rfl, Or.inl ⟨(gw 320 (by decide +kernel) rfl), selw G (gw 322 (by decide +kernel) rfl)⟩⟩, fun _ h => absurd h List.not_mem_nil⟩)
set_option maxRecDepth 20000 in
theorem vs_RL_31 {X : Cx} (G : GC X) : VS X RL 31 [(98, 1), (11, 164)] := vs_of (List.forall_mem_cons.mpr ⟨⟨iX12_ofDrill, (RX12, TX12, 33, tyX12), mtX12_ofDrill, moX12_ofDrill, rfl, (gw 1023 (by decide +kernel) rfl), rfl, Or.inl ⟨(gw 1022 (by decide +kernel) rfl), selw G (gw 1024 (by decide +kernel) rfl)⟩⟩, fun _ h => absurd h List.not_mem_nil⟩)
set_option maxRecDepth 20000 in
theorem vs_RL_27 {X : Cx} (G : GC X) : VS X RL 27 [(98, 1), (10, 105)] := vs_of (List.forall_mem_cons.mpr ⟨⟨iX11_ofDrill, (RX11, TX11, 10, tyX11), mtX11_ofDrill, moX11_ofDrill, rfl, (gw 297 (by decide +kernel) rfl), rfl, Or.inl ⟨(gw 296 (by decide +kernel) rfl), selw G (gw 298 (by decide +kernel) rfl)⟩⟩, fun _ h => absurd h List.not_mem_nil⟩)
set_option maxRecDepth 20000 in
theorem vs_RL_26 {X : Cx} (G : GC X) : VS X RL 26 [(98, 4), (11, 163)] := vs_of (List.forall_mem_cons.mpr ⟨⟨iX12_drill, (RX12, TX12, 33, tyX12), mtX12_drill, moX12_drill, rfl, (gw 985 (by decide +kernel) rfl), rfl, Or.inl ⟨(gw 984 (by decide +kernel) rfl), selw G (gw 986 (by decide +kernel) rfl)⟩⟩, fun _ h => absurd h List.not_mem_nil⟩)
set_option maxRecDepth 20000 in
theorem vs_RL_22 {X : Cx} (G : GC X) : VS X RL 22 [(98, 4), (10, 104)] := vs_of (List.forall_mem_cons.mpr ⟨⟨iX11_drill, (RX11, TX11, 10, tyX11), mtX11_drill, moX11_drill, rfl, (gw 187 (by decide +kernel) rfl), rfl, Or.inl ⟨(gw 186 (by decide +kernel) rfl), selw G (gw 188 (by decide +kernel) rfl)⟩⟩, fun _ h => absurd h List.not_mem_nil⟩)
set_option maxRecDepth 20000 in
theorem vs_RL_21 {X : Cx} (G : GC X) : VS X RL 21 [(98, 2), (11, 159)] := vs_of (List.forall_mem_cons.mpr ⟨⟨iX12_weight, (RX12, TX12, 33, tyX12), mtX12_weight, moX12_weight, rfl, (gw 981 (by decide +kernel) rfl), rfl, Or.inl ⟨(gw 980 (by decide +kernel) rfl), selw G (gw 982 (by decide +kernel) rfl)⟩⟩, fun _ h => absurd h List.not_mem_nil⟩)
set_option maxRecDepth 20000 in
theorem vs_RL_18 {X : Cx} (G : GC X) : VS X RL 18 [(98, 2), (10, 103)] := vs_of (List.forall_mem_cons.mpr ⟨⟨iX11_weight, (RX11, TX11, 10, tyX11), mtX11_weight, moX11_weight, rfl, (gw 175 (by decide +kernel) rfl), rfl, Or.inl ⟨(gw 174 (by decide +kernel) rfl), selw G (gw 176 (by decide +kernel) rfl)⟩⟩, fun _ h => absurd h List.not_mem_nil⟩)
set_option maxRecDepth 20000 in
theorem vs_RL_17 {X : Cx} (G : GC X) : VS X RL 17 [(98, 2), (11, 158)] := vs_of (List.forall_mem_cons.mpr ⟨⟨iX12_code, (RX12, TX12, 33, tyX12), mtX12_code, moX12_code, rfl, (gw 968 (by decide +kernel) rfl), rfl, Or.inl ⟨(gw 967 (by decide +kernel) rfl), selw G (gw 969 (by decide +kernel) rfl)⟩⟩, fun _ h => absurd h List.not_mem_nil⟩)
set_option maxRecDepth 20000 in
theorem vs_RL_13 {X : Cx} (G : GC X) : VS X RL 13 [(98, 2), (10, 102)] := vs_of (List.forall_mem_cons.mpr ⟨⟨iX11_code, (RX11, TX11, 10, tyX11), mtX11_code, moX11_code, rfl, (gw 148 (by decide +kernel) rfl), rfl, Or.inl ⟨(gw 147 (by decide +kernel) rfl), selw G (gw 149 (by decide +kernel) rfl)⟩⟩, fun _ h => absurd h List.not_mem_nil⟩)
set_option maxRecDepth 20000 in
theorem ps_RL_12 {X : Cx} (G : GC X) : PS X RL 12 [(98, 0), (0, 146), (211, 0)] := ps_init mtX12_init moX12_init rfl (gw 864 (by decide +kernel) rfl) rfl rfl (Or.inl (gw 863 (by decide +kernel) rfl)) (by decide)
set_option maxRecDepth 20000 in
theorem ps_RL_9 {X : Cx} (G : GC X) : PS X RL 9 [(98, 0), (0, 101), (210, 0)] := ps_init mtX11_init moX11_init rfl (gw 19 (by decide +kernel) rfl) rfl rfl (Or.inl (gw 18 (by decide +kernel) rfl)) (by decide)
