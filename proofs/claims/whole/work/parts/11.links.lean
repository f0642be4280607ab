def rm_X5_letter : Room := { frames := 1, cells := 0, slots := 0, locals := 21 }
abbrev K_X5_letter := CT yX5_letter cX5_letter 2 (some .int) rm_X5_letter
abbrev W_X5_letter (Q : Option Value → zH → Prop) := WG RX5 cX5_letter 2 (some .int) rm_X5_letter 0 0 zX0 (zEm Q)
theorem b_X5_letter : zMB yX5_letter cX5_letter 2 (some .int) 1 := ⟨zat 52 (by decide +kernel) rfl, zat 250 (by decide +kernel) rfl, by decide +kernel⟩
def rm_X5_tells : Room := { frames := 7, cells := 0, slots := 0, locals := 210 }
abbrev K_X5_tells := CT yX5_tells cX5_tells 2 (some .int) rm_X5_tells
abbrev W_X5_tells (Q : Option Value → zH → Prop) := WG RX5 cX5_tells 2 (some .int) rm_X5_tells 0 0 zX0 (zEm Q)
theorem b_X5_tells : zMB yX5_tells cX5_tells 2 (some .int) 0 := ⟨zat 52 (by decide +kernel) rfl, zat 258 (by decide +kernel) rfl, by decide +kernel⟩
def rm_X5_side : Room := { frames := 2, cells := 0, slots := 0, locals := 51 }
abbrev K_X5_side := CT yX5_side cX5_side 5 (some .int) rm_X5_side
abbrev W_X5_side (Q : Option Value → zH → Prop) := WG RX5 cX5_side 5 (some .int) rm_X5_side 0 0 zX0 (zEm Q)
theorem b_X5_side : zMB yX5_side cX5_side 5 (some .int) 3 := ⟨zat 52 (by decide +kernel) rfl, zat 416 (by decide +kernel) rfl, by decide +kernel⟩
def rm_X5_insert : Room := { frames := 2, cells := 0, slots := 0, locals := 51 }
abbrev K_X5_insert := CT yX5_insert cX5_insert 6 (some .int) rm_X5_insert
abbrev W_X5_insert (Q : Option Value → zH → Prop) := WG RX5 cX5_insert 6 (some .int) rm_X5_insert 0 0 zX0 (zEm Q)
theorem b_X5_insert : zMB yX5_insert cX5_insert 6 (some .int) 4 := ⟨zat 52 (by decide +kernel) rfl, zat 422 (by decide +kernel) rfl, by decide +kernel⟩
def rm_X5_kind : Room := { frames := 2, cells := 0, slots := 0, locals := 51 }
abbrev K_X5_kind := CT yX5_kind cX5_kind 5 (some .int) rm_X5_kind
abbrev W_X5_kind (Q : Option Value → zH → Prop) := WG RX5 cX5_kind 5 (some .int) rm_X5_kind 0 0 zX0 (zEm Q)
theorem b_X5_kind : zMB yX5_kind cX5_kind 5 (some .int) 3 := ⟨zat 52 (by decide +kernel) rfl, zat 427 (by decide +kernel) rfl, by decide +kernel⟩
def rm_X5_gone : Room := { frames := 2, cells := 0, slots := 0, locals := 51 }
abbrev K_X5_gone := CT yX5_gone cX5_gone 2 (some .int) rm_X5_gone
abbrev W_X5_gone (Q : Option Value → zH → Prop) := WG RX5 cX5_gone 2 (some .int) rm_X5_gone 0 0 zX0 (zEm Q)
theorem b_X5_gone : zMB yX5_gone cX5_gone 2 (some .int) 1 := ⟨zat 52 (by decide +kernel) rfl, zat 433 (by decide +kernel) rfl, by decide +kernel⟩
def rm_X5_turned : Room := { frames := 3, cells := 0, slots := 0, locals := 70 }
abbrev K_X5_turned := CT yX5_turned cX5_turned 1 (some .int) rm_X5_turned
abbrev W_X5_turned (Q : Option Value → zH → Prop) := WG RX5 cX5_turned 1 (some .int) rm_X5_turned 0 0 zX0 (zEm Q)
theorem b_X5_turned : zMB yX5_turned cX5_turned 1 (some .int) 0 := ⟨zat 52 (by decide +kernel) rfl, zat 439 (by decide +kernel) rfl, by decide +kernel⟩
def rm_X5_of : Room := { frames := 3, cells := 0, slots := 0, locals := 75 }
abbrev K_X5_of := CT yX5_of cX5_of 3 (some .long) rm_X5_of
abbrev W_X5_of (Q : Option Value → zH → Prop) := WG RX5 cX5_of 3 (some .long) rm_X5_of 0 0 zX0 (zEm Q)
theorem b_X5_of : zMB yX5_of cX5_of 3 (some .long) 2 := ⟨zat 52 (by decide +kernel) rfl, zat 444 (by decide +kernel) rfl, by decide +kernel⟩
def rm_X5_miss : Room := { frames := 4, cells := 0, slots := 0, locals := 86 }
abbrev K_X5_miss := CT yX5_miss cX5_miss 2 (some .long) rm_X5_miss
abbrev W_X5_miss (Q : Option Value → zH → Prop) := WG RX5 cX5_miss 2 (some .long) rm_X5_miss 0 0 zX0 (zEm Q)
theorem b_X5_miss : zMB yX5_miss cX5_miss 2 (some .long) 1 := ⟨zat 52 (by decide +kernel) rfl, zat 486 (by decide +kernel) rfl, by decide +kernel⟩
def rm_X5_spread : Room := { frames := 5, cells := 0, slots := 0, locals := 127 }
abbrev K_X5_spread := CT yX5_spread cX5_spread 4 (some .long) rm_X5_spread
abbrev W_X5_spread (Q : Option Value → zH → Prop) := WG RX5 cX5_spread 4 (some .long) rm_X5_spread 0 0 zX0 (zEm Q)
theorem b_X5_spread : zMB yX5_spread cX5_spread 4 (some .long) 3 := ⟨zat 52 (by decide +kernel) rfl, zat 507 (by decide +kernel) rfl, by decide +kernel⟩
def rm_X5_corner : Room := { frames := 5, cells := 0, slots := 0, locals := 127 }
abbrev K_X5_corner := CT yX5_corner cX5_corner 4 (some .long) rm_X5_corner
abbrev W_X5_corner (Q : Option Value → zH → Prop) := WG RX5 cX5_corner 4 (some .long) rm_X5_corner 0 0 zX0 (zEm Q)
theorem b_X5_corner : zMB yX5_corner cX5_corner 4 (some .long) 3 := ⟨zat 52 (by decide +kernel) rfl, zat 535 (by decide +kernel) rfl, by decide +kernel⟩
def rm_X5_area : Room := { frames := 5, cells := 0, slots := 0, locals := 127 }
abbrev K_X5_area := CT yX5_area cX5_area 2 (some .long) rm_X5_area
abbrev W_X5_area (Q : Option Value → zH → Prop) := WG RX5 cX5_area 2 (some .long) rm_X5_area 0 0 zX0 (zEm Q)
theorem b_X5_area : zMB yX5_area cX5_area 2 (some .long) 1 := ⟨zat 52 (by decide +kernel) rfl, zat 539 (by decide +kernel) rfl, by decide +kernel⟩
def rm_X5_turn : Room := { frames := 5, cells := 0, slots := 0, locals := 127 }
abbrev K_X5_turn := CT yX5_turn cX5_turn 2 (some .int) rm_X5_turn
abbrev W_X5_turn (Q : Option Value → zH → Prop) := WG RX5 cX5_turn 2 (some .int) rm_X5_turn 0 0 zX0 (zEm Q)
theorem b_X5_turn : zMB yX5_turn cX5_turn 2 (some .int) 1 := ⟨zat 52 (by decide +kernel) rfl, zat 560 (by decide +kernel) rfl, by decide +kernel⟩
def rm_X5_cross : Room := { frames := 5, cells := 0, slots := 0, locals := 127 }
abbrev K_X5_cross := CT yX5_cross cX5_cross 3 (some .int) rm_X5_cross
abbrev W_X5_cross (Q : Option Value → zH → Prop) := WG RX5 cX5_cross 3 (some .int) rm_X5_cross 0 0 zX0 (zEm Q)
theorem b_X5_cross : zMB yX5_cross cX5_cross 3 (some .int) 2 := ⟨zat 52 (by decide +kernel) rfl, zat 568 (by decide +kernel) rfl, by decide +kernel⟩
def rm_X5_crosses : Room := { frames := 5, cells := 0, slots := 0, locals := 127 }
abbrev K_X5_crosses := CT yX5_crosses cX5_crosses 1 (some .int) rm_X5_crosses
abbrev W_X5_crosses (Q : Option Value → zH → Prop) := WG RX5 cX5_crosses 1 (some .int) rm_X5_crosses 0 0 zX0 (zEm Q)
theorem b_X5_crosses : zMB yX5_crosses cX5_crosses 1 (some .int) 0 := ⟨zat 52 (by decide +kernel) rfl, zat 597 (by decide +kernel) rfl, by decide +kernel⟩
def rm_X5_outline : Room := { frames := 5, cells := 0, slots := 0, locals := 127 }
abbrev K_X5_outline := CT yX5_outline cX5_outline 3 (some .int) rm_X5_outline
abbrev W_X5_outline (Q : Option Value → zH → Prop) := WG RX5 cX5_outline 3 (some .int) rm_X5_outline 0 0 zX0 (zEm Q)
theorem b_X5_outline : zMB yX5_outline cX5_outline 3 (some .int) 1 := ⟨zat 52 (by decide +kernel) rfl, zat 607 (by decide +kernel) rfl, by decide +kernel⟩
def rm_X5_hull : Room := { frames := 6, cells := 0, slots := 0, locals := 150 }
abbrev K_X5_hull := CT yX5_hull cX5_hull 2 (some .long) rm_X5_hull
abbrev W_X5_hull (Q : Option Value → zH → Prop) := WG RX5 cX5_hull 2 (some .long) rm_X5_hull 0 0 zX0 (zEm Q)
theorem b_X5_hull : zMB yX5_hull cX5_hull 2 (some .long) 1 := ⟨zat 52 (by decide +kernel) rfl, zat 637 (by decide +kernel) rfl, by decide +kernel⟩
def rm_X5_lost : Room := { frames := 4, cells := 0, slots := 0, locals := 86 }
abbrev K_X5_lost := CT yX5_lost cX5_lost 4 (some .long) rm_X5_lost
abbrev W_X5_lost (Q : Option Value → zH → Prop) := WG RX5 cX5_lost 4 (some .long) rm_X5_lost 0 0 zX0 (zEm Q)
theorem b_X5_lost : zMB yX5_lost cX5_lost 4 (some .long) 2 := ⟨zat 52 (by decide +kernel) rfl, zat 646 (by decide +kernel) rfl, by decide +kernel⟩
def rm_X5_lengths : Room := { frames := 4, cells := 0, slots := 0, locals := 86 }
abbrev K_X5_lengths := CT yX5_lengths cX5_lengths 22 (some .long) rm_X5_lengths
abbrev W_X5_lengths (Q : Option Value → zH → Prop) := WG RX5 cX5_lengths 22 (some .long) rm_X5_lengths 0 0 zX0 (zEm Q)
theorem b_X5_lengths : zMB yX5_lengths cX5_lengths 22 (some .long) 4 := ⟨zat 52 (by decide +kernel) rfl, zat 655 (by decide +kernel) rfl, by decide +kernel⟩
def rm_X5_worst : Room := { frames := 5, cells := 0, slots := 0, locals := 107 }
abbrev K_X5_worst := CT yX5_worst cX5_worst 6 (some .int) rm_X5_worst
abbrev W_X5_worst (Q : Option Value → zH → Prop) := WG RX5 cX5_worst 6 (some .int) rm_X5_worst 0 0 zX0 (zEm Q)
theorem b_X5_worst : zMB yX5_worst cX5_worst 6 (some .int) 1 := ⟨zat 52 (by decide +kernel) rfl, zat 661 (by decide +kernel) rfl, by decide +kernel⟩
def rm_X5_order : Room := { frames := 4, cells := 0, slots := 0, locals := 99 }
abbrev K_X5_order := CT yX5_order cX5_order 3 (some .int) rm_X5_order
abbrev W_X5_order (Q : Option Value → zH → Prop) := WG RX5 cX5_order 3 (some .int) rm_X5_order 0 0 zX0 (zEm Q)
theorem b_X5_order : zMB yX5_order cX5_order 3 (some .int) 1 := ⟨zat 52 (by decide +kernel) rfl, zat 671 (by decide +kernel) rfl, by decide +kernel⟩
def rm_X5_likely : Room := { frames := 5, cells := 0, slots := 0, locals := 107 }
abbrev K_X5_likely := CT yX5_likely cX5_likely 7 (some .long) rm_X5_likely
abbrev W_X5_likely (Q : Option Value → zH → Prop) := WG RX5 cX5_likely 7 (some .long) rm_X5_likely 0 0 zX0 (zEm Q)
theorem b_X5_likely : zMB yX5_likely cX5_likely 7 (some .long) 3 := ⟨zat 52 (by decide +kernel) rfl, zat 679 (by decide +kernel) rfl, by decide +kernel⟩
def rm_X5_parcel : Room := { frames := 5, cells := 0, slots := 0, locals := 127 }
abbrev K_X5_parcel := CT yX5_parcel cX5_parcel 4 (some .long) rm_X5_parcel
abbrev W_X5_parcel (Q : Option Value → zH → Prop) := WG RX5 cX5_parcel 4 (some .long) rm_X5_parcel 0 0 zX0 (zEm Q)
theorem b_X5_parcel : zMB yX5_parcel cX5_parcel 4 (some .long) 3 := ⟨zat 52 (by decide +kernel) rfl, zat 686 (by decide +kernel) rfl, by decide +kernel⟩
def rm_X5_cut : Room := { frames := 5, cells := 0, slots := 0, locals := 127 }
abbrev K_X5_cut := CT yX5_cut cX5_cut 11 (some .long) rm_X5_cut
abbrev W_X5_cut (Q : Option Value → zH → Prop) := WG RX5 cX5_cut 11 (some .long) rm_X5_cut 0 0 zX0 (zEm Q)
theorem b_X5_cut : zMB yX5_cut cX5_cut 11 (some .long) 3 := ⟨zat 52 (by decide +kernel) rfl, zat 694 (by decide +kernel) rfl, by decide +kernel⟩
def rm_X5_whatIs : Room := { frames := 3, cells := 0, slots := 0, locals := 77 }
abbrev K_X5_whatIs := CT yX5_whatIs cX5_whatIs 5 (some .int) rm_X5_whatIs
abbrev W_X5_whatIs (Q : Option Value → zH → Prop) := WG RX5 cX5_whatIs 5 (some .int) rm_X5_whatIs 0 0 zX0 (zEm Q)
theorem b_X5_whatIs : zMB yX5_whatIs cX5_whatIs 5 (some .int) 2 := ⟨zat 52 (by decide +kernel) rfl, zat 704 (by decide +kernel) rfl, by decide +kernel⟩
def rm_X5_row : Room := { frames := 1, cells := 0, slots := 0, locals := 21 }
abbrev K_X5_row := CT yX5_row cX5_row 2 (some .int) rm_X5_row
abbrev W_X5_row (Q : Option Value → zH → Prop) := WG RX5 cX5_row 2 (some .int) rm_X5_row 0 0 zX0 (zEm Q)
theorem b_X5_row : zMB yX5_row cX5_row 2 (some .int) 1 := ⟨zat 52 (by decide +kernel) rfl, zat 713 (by decide +kernel) rfl, by decide +kernel⟩
def rm_X5_clear : Room := { frames := 0, cells := 0, slots := 0, locals := 0 }
abbrev K_X5_clear := CT yX5_clear cX5_clear 2 (some .int) rm_X5_clear
abbrev W_X5_clear (Q : Option Value → zH → Prop) := WG RX5 cX5_clear 2 (some .int) rm_X5_clear 0 0 zX0 (zEm Q)
theorem b_X5_clear : zMB yX5_clear cX5_clear 2 (some .int) 0 := ⟨zat 52 (by decide +kernel) rfl, zat 717 (by decide +kernel) rfl, by decide +kernel⟩
def rm_X5_lots : Room := { frames := 5, cells := 0, slots := 0, locals := 127 }
abbrev K_X5_lots := CT yX5_lots cX5_lots 8 (some .int) rm_X5_lots
abbrev W_X5_lots (Q : Option Value → zH → Prop) := WG RX5 cX5_lots 8 (some .int) rm_X5_lots 0 0 zX0 (zEm Q)
theorem b_X5_lots : zMB yX5_lots cX5_lots 8 (some .int) 3 := ⟨zat 52 (by decide +kernel) rfl, zat 721 (by decide +kernel) rfl, by decide +kernel⟩
def rm_X5_list : Room := { frames := 1, cells := 0, slots := 0, locals := 23 }
abbrev K_X5_list := CT yX5_list cX5_list 4 (some .int) rm_X5_list
abbrev W_X5_list (Q : Option Value → zH → Prop) := WG RX5 cX5_list 4 (some .int) rm_X5_list 0 0 zX0 (zEm Q)
theorem b_X5_list : zMB yX5_list cX5_list 4 (some .int) 3 := ⟨zat 52 (by decide +kernel) rfl, zat 732 (by decide +kernel) rfl, by decide +kernel⟩
def rm_X5_put : Room := { frames := 2, cells := 0, slots := 0, locals := 44 }
abbrev K_X5_put := CT yX5_put cX5_put 5 (some .int) rm_X5_put
abbrev W_X5_put (Q : Option Value → zH → Prop) := WG RX5 cX5_put 5 (some .int) rm_X5_put 0 0 zX0 (zEm Q)
theorem b_X5_put : zMB yX5_put cX5_put 5 (some .int) 3 := ⟨zat 52 (by decide +kernel) rfl, zat 743 (by decide +kernel) rfl, by decide +kernel⟩
def rm_X5_look : Room := { frames := 2, cells := 0, slots := 0, locals := 42 }
abbrev K_X5_look := CT yX5_look cX5_look 4 (some .long) rm_X5_look
abbrev W_X5_look (Q : Option Value → zH → Prop) := WG RX5 cX5_look 4 (some .long) rm_X5_look 0 0 zX0 (zEm Q)
theorem b_X5_look : zMB yX5_look cX5_look 4 (some .long) 2 := ⟨zat 52 (by decide +kernel) rfl, zat 759 (by decide +kernel) rfl, by decide +kernel⟩
def rm_X5_copy : Room := { frames := 1, cells := 0, slots := 0, locals := 60 }
abbrev K_X5_copy := CT yX5_copy cX5_copy 8 (some .int) rm_X5_copy
abbrev W_X5_copy (Q : Option Value → zH → Prop) := WG RX5 cX5_copy 8 (some .int) rm_X5_copy 0 0 zX0 (zEm Q)
theorem b_X5_copy : zMB yX5_copy cX5_copy 8 (some .int) 5 := ⟨zat 52 (by decide +kernel) rfl, zat 766 (by decide +kernel) rfl, by decide +kernel⟩
def rm_X5_lays : Room := { frames := 5, cells := 0, slots := 0, locals := 127 }
abbrev K_X5_lays := CT yX5_lays cX5_lays 5 (some .int) rm_X5_lays
abbrev W_X5_lays (Q : Option Value → zH → Prop) := WG RX5 cX5_lays 5 (some .int) rm_X5_lays 0 0 zX0 (zEm Q)
theorem b_X5_lays : zMB yX5_lays cX5_lays 5 (some .int) 2 := ⟨zat 52 (by decide +kernel) rfl, zat 777 (by decide +kernel) rfl, by decide +kernel⟩
def rm_X5_judge : Room := { frames := 5, cells := 0, slots := 0, locals := 127 }
abbrev K_X5_judge := CT yX5_judge cX5_judge 4 (some .int) rm_X5_judge
abbrev W_X5_judge (Q : Option Value → zH → Prop) := WG RX5 cX5_judge 4 (some .int) rm_X5_judge 0 0 zX0 (zEm Q)
theorem b_X5_judge : zMB yX5_judge cX5_judge 4 (some .int) 1 := ⟨zat 52 (by decide +kernel) rfl, zat 785 (by decide +kernel) rfl, by decide +kernel⟩
def rm_X5_undo : Room := { frames := 2, cells := 0, slots := 0, locals := 43 }
abbrev K_X5_undo := CT yX5_undo cX5_undo 1 (some .int) rm_X5_undo
abbrev W_X5_undo (Q : Option Value → zH → Prop) := WG RX5 cX5_undo 1 (some .int) rm_X5_undo 0 0 zX0 (zEm Q)
theorem b_X5_undo : zMB yX5_undo cX5_undo 1 (some .int) 0 := ⟨zat 52 (by decide +kernel) rfl, zat 789 (by decide +kernel) rfl, by decide +kernel⟩
def rm_X5_image : Room := { frames := 1, cells := 0, slots := 0, locals := 22 }
abbrev K_X5_image := CT yX5_image cX5_image 1 (some .int) rm_X5_image
abbrev W_X5_image (Q : Option Value → zH → Prop) := WG RX5 cX5_image 1 (some .int) rm_X5_image 0 0 zX0 (zEm Q)
theorem b_X5_image : zMB yX5_image cX5_image 1 (some .int) 0 := ⟨zat 52 (by decide +kernel) rfl, zat 797 (by decide +kernel) rfl, by decide +kernel⟩
def rm_X5_on : Room := { frames := 1, cells := 0, slots := 0, locals := 22 }
abbrev K_X5_on := CT yX5_on cX5_on 1 (some .int) rm_X5_on
abbrev W_X5_on (Q : Option Value → zH → Prop) := WG RX5 cX5_on 1 (some .int) rm_X5_on 0 0 zX0 (zEm Q)
theorem b_X5_on : zMB yX5_on cX5_on 1 (some .int) 0 := ⟨zat 52 (by decide +kernel) rfl, zat 801 (by decide +kernel) rfl, by decide +kernel⟩
def rm_X5_count : Room := { frames := 4, cells := 0, slots := 0, locals := 97 }
abbrev K_X5_count := CT yX5_count cX5_count 2 (some .int) rm_X5_count
abbrev W_X5_count (Q : Option Value → zH → Prop) := WG RX5 cX5_count 2 (some .int) rm_X5_count 0 0 zX0 (zEm Q)
theorem b_X5_count : zMB yX5_count cX5_count 2 (some .int) 1 := ⟨zat 52 (by decide +kernel) rfl, zat 805 (by decide +kernel) rfl, by decide +kernel⟩
def rm_X5_refuse : Room := { frames := 0, cells := 0, slots := 0, locals := 0 }
abbrev K_X5_refuse := CT yX5_refuse cX5_refuse 2 (some .int) rm_X5_refuse
abbrev W_X5_refuse (Q : Option Value → zH → Prop) := WG RX5 cX5_refuse 2 (some .int) rm_X5_refuse 0 0 zX0 (zEm Q)
theorem b_X5_refuse : zMB yX5_refuse cX5_refuse 2 (some .int) 1 := ⟨zat 52 (by decide +kernel) rfl, zat 254 (by decide +kernel) rfl, by decide +kernel⟩
def rm_X5_refuseLong : Room := { frames := 1, cells := 0, slots := 0, locals := 21 }
abbrev K_X5_refuseLong := CT yX5_refuseLong cX5_refuseLong 2 (some .long) rm_X5_refuseLong
abbrev W_X5_refuseLong (Q : Option Value → zH → Prop) := WG RX5 cX5_refuseLong 2 (some .long) rm_X5_refuseLong 0 0 zX0 (zEm Q)
theorem b_X5_refuseLong : zMB yX5_refuseLong cX5_refuseLong 2 (some .long) 1 := ⟨zat 52 (by decide +kernel) rfl, zat 448 (by decide +kernel) rfl, by decide +kernel⟩
def rm_X5_isOneOfTwo : Room := { frames := 0, cells := 0, slots := 0, locals := 0 }
abbrev K_X5_isOneOfTwo := CT yX5_isOneOfTwo cX5_isOneOfTwo 1 (some .boolean) rm_X5_isOneOfTwo
abbrev W_X5_isOneOfTwo (Q : Option Value → zH → Prop) := WG RX5 cX5_isOneOfTwo 1 (some .boolean) rm_X5_isOneOfTwo 0 0 zX0 (zEm Q)
theorem b_X5_isOneOfTwo : zMB yX5_isOneOfTwo cX5_isOneOfTwo 1 (some .boolean) 1 := ⟨zat 52 (by decide +kernel) rfl, zat 489 (by decide +kernel) rfl, by decide +kernel⟩
def rm_X5_isList : Room := { frames := 0, cells := 0, slots := 0, locals := 0 }
abbrev K_X5_isList := CT yX5_isList cX5_isList 1 (some .boolean) rm_X5_isList
abbrev W_X5_isList (Q : Option Value → zH → Prop) := WG RX5 cX5_isList 1 (some .boolean) rm_X5_isList 0 0 zX0 (zEm Q)
theorem b_X5_isList : zMB yX5_isList cX5_isList 1 (some .boolean) 1 := ⟨zat 52 (by decide +kernel) rfl, zat 735 (by decide +kernel) rfl, by decide +kernel⟩
def rm_X5_fitsRow : Room := { frames := 2, cells := 0, slots := 0, locals := 54 }
abbrev K_X5_fitsRow := CT yX5_fitsRow cX5_fitsRow 4 (some .boolean) rm_X5_fitsRow
abbrev W_X5_fitsRow (Q : Option Value → zH → Prop) := WG RX5 cX5_fitsRow 4 (some .boolean) rm_X5_fitsRow 0 0 zX0 (zEm Q)
theorem b_X5_fitsRow : zMB yX5_fitsRow cX5_fitsRow 4 (some .boolean) 2 := ⟨zat 52 (by decide +kernel) rfl, zat 708 (by decide +kernel) rfl, by decide +kernel⟩
def rm_X5_power : Room := { frames := 0, cells := 0, slots := 0, locals := 0 }
abbrev K_X5_power := CT yX5_power cX5_power 6 (some .long) rm_X5_power
abbrev W_X5_power (Q : Option Value → zH → Prop) := WG RX5 cX5_power 6 (some .long) rm_X5_power 0 0 zX0 (zEm Q)
theorem b_X5_power : zMB yX5_power cX5_power 6 (some .long) 2 := ⟨zat 52 (by decide +kernel) rfl, zat 682 (by decide +kernel) rfl, by decide +kernel⟩
def rm_X5_fraction : Room := { frames := 2, cells := 0, slots := 0, locals := 60 }
abbrev K_X5_fraction := CT yX5_fraction cX5_fraction 7 (some .long) rm_X5_fraction
abbrev W_X5_fraction (Q : Option Value → zH → Prop) := WG RX5 cX5_fraction 7 (some .long) rm_X5_fraction 0 0 zX0 (zEm Q)
theorem b_X5_fraction : zMB yX5_fraction cX5_fraction 7 (some .long) 3 := ⟨zat 52 (by decide +kernel) rfl, zat 525 (by decide +kernel) rfl, by decide +kernel⟩
def rm_X5_commonDivisor : Room := { frames := 1, cells := 0, slots := 0, locals := 30 }
abbrev K_X5_commonDivisor := CT yX5_commonDivisor cX5_commonDivisor 11 (some .long) rm_X5_commonDivisor
abbrev W_X5_commonDivisor (Q : Option Value → zH → Prop) := WG RX5 cX5_commonDivisor 11 (some .long) rm_X5_commonDivisor 0 0 zX0 (zEm Q)
theorem b_X5_commonDivisor : zMB yX5_commonDivisor cX5_commonDivisor 11 (some .long) 2 := ⟨zat 52 (by decide +kernel) rfl, zat 528 (by decide +kernel) rfl, by decide +kernel⟩
def rm_X6_in : Room := { frames := 0, cells := 0, slots := 0, locals := 0 }
abbrev K_X6_in := CT yX6_in cX6_in 6 (some .boolean) rm_X6_in
abbrev W_X6_in (Q : Option Value → zH → Prop) := WG RX6 cX6_in 6 (some .boolean) rm_X6_in 0 0 zX0 (zEm Q)
theorem b_X6_in : zMB yX6_in cX6_in 6 (some .boolean) 3 := ⟨zat 58 (by decide +kernel) rfl, zat 927 (by decide +kernel) rfl, by decide +kernel⟩
def rm_X6_no : Room := { frames := 0, cells := 0, slots := 0, locals := 0 }
abbrev K_X6_no := CT yX6_no cX6_no 2 (some .int) rm_X6_no
abbrev W_X6_no (Q : Option Value → zH → Prop) := WG RX6 cX6_no 2 (some .int) rm_X6_no 0 0 zX0 (zEm Q)
theorem b_X6_no : zMB yX6_no cX6_no 2 (some .int) 1 := ⟨zat 58 (by decide +kernel) rfl, zat 889 (by decide +kernel) rfl, by decide +kernel⟩
def rm_X6_far : Room := { frames := 1, cells := 0, slots := 0, locals := 21 }
abbrev K_X6_far := CT yX6_far cX6_far 2 (some .long) rm_X6_far
abbrev W_X6_far (Q : Option Value → zH → Prop) := WG RX6 cX6_far 2 (some .long) rm_X6_far 0 0 zX0 (zEm Q)
theorem b_X6_far : zMB yX6_far cX6_far 2 (some .long) 1 := ⟨zat 58 (by decide +kernel) rfl, zat 1006 (by decide +kernel) rfl, by decide +kernel⟩
def rm_X6_copies : Room := { frames := 0, cells := 0, slots := 0, locals := 0 }
abbrev K_X6_copies := CT yX6_copies cX6_copies 5 none rm_X6_copies
abbrev W_X6_copies (Q : Option Value → zH → Prop) := WG RX6 cX6_copies 5 none rm_X6_copies 0 0 zX0 (zEm Q)
theorem b_X6_copies : zMB yX6_copies cX6_copies 5 none 4 := ⟨zat 58 (by decide +kernel) rfl, zat 892 (by decide +kernel) rfl, by decide +kernel⟩
def rm_X6_many : Room := { frames := 0, cells := 0, slots := 0, locals := 0 }
abbrev K_X6_many := CT yX6_many cX6_many 1 (some .int) rm_X6_many
abbrev W_X6_many (Q : Option Value → zH → Prop) := WG RX6 cX6_many 1 (some .int) rm_X6_many 0 0 zX0 (zEm Q)
theorem b_X6_many : zMB yX6_many cX6_many 1 (some .int) 0 := ⟨zat 58 (by decide +kernel) rfl, zat 904 (by decide +kernel) rfl, by decide +kernel⟩
def rm_X6_isSide : Room := { frames := 1, cells := 0, slots := 0, locals := 25 }
abbrev K_X6_isSide := CT yX6_isSide cX6_isSide 2 (some .boolean) rm_X6_isSide
abbrev W_X6_isSide (Q : Option Value → zH → Prop) := WG RX6 cX6_isSide 2 (some .boolean) rm_X6_isSide 0 0 zX0 (zEm Q)
theorem b_X6_isSide : zMB yX6_isSide cX6_isSide 2 (some .boolean) 1 := ⟨zat 58 (by decide +kernel) rfl, zat 924 (by decide +kernel) rfl, by decide +kernel⟩
def rm_X6_at : Room := { frames := 0, cells := 0, slots := 0, locals := 0 }
abbrev K_X6_at := CT yX6_at cX6_at 3 (some .int) rm_X6_at
abbrev W_X6_at (Q : Option Value → zH → Prop) := WG RX6 cX6_at 3 (some .int) rm_X6_at 0 0 zX0 (zEm Q)
theorem b_X6_at : zMB yX6_at cX6_at 3 (some .int) 2 := ⟨zat 58 (by decide +kernel) rfl, zat 940 (by decide +kernel) rfl, by decide +kernel⟩
def rm_X6_size : Room := { frames := 0, cells := 0, slots := 0, locals := 0 }
abbrev K_X6_size := CT yX6_size cX6_size 1 (some .int) rm_X6_size
abbrev W_X6_size (Q : Option Value → zH → Prop) := WG RX6 cX6_size 1 (some .int) rm_X6_size 0 0 zX0 (zEm Q)
theorem b_X6_size : zMB yX6_size cX6_size 1 (some .int) 1 := ⟨zat 58 (by decide +kernel) rfl, zat 1017 (by decide +kernel) rfl, by decide +kernel⟩
def rm_X6_stretchOf : Room := { frames := 0, cells := 0, slots := 0, locals := 0 }
abbrev K_X6_stretchOf := CT yX6_stretchOf cX6_stretchOf 2 (some .int) rm_X6_stretchOf
abbrev W_X6_stretchOf (Q : Option Value → zH → Prop) := WG RX6 cX6_stretchOf 2 (some .int) rm_X6_stretchOf 0 0 zX0 (zEm Q)
theorem b_X6_stretchOf : zMB yX6_stretchOf cX6_stretchOf 2 (some .int) 2 := ⟨zat 58 (by decide +kernel) rfl, zat 1029 (by decide +kernel) rfl, by decide +kernel⟩
def rm_X6_weightOf : Room := { frames := 1, cells := 0, slots := 0, locals := 30 }
abbrev K_X6_weightOf := CT yX6_weightOf cX6_weightOf 5 (some .int) rm_X6_weightOf
abbrev W_X6_weightOf (Q : Option Value → zH → Prop) := WG RX6 cX6_weightOf 5 (some .int) rm_X6_weightOf 0 0 zX0 (zEm Q)
theorem b_X6_weightOf : zMB yX6_weightOf cX6_weightOf 5 (some .int) 4 := ⟨zat 58 (by decide +kernel) rfl, zat 1014 (by decide +kernel) rfl, by decide +kernel⟩
def rm_X6_weight : Room := { frames := 2, cells := 0, slots := 0, locals := 54 }
abbrev K_X6_weight := CT yX6_weight cX6_weight 2 (some .int) rm_X6_weight
abbrev W_X6_weight (Q : Option Value → zH → Prop) := WG RX6 cX6_weight 2 (some .int) rm_X6_weight 0 0 zX0 (zEm Q)
theorem b_X6_weight : zMB yX6_weight cX6_weight 2 (some .int) 1 := ⟨zat 58 (by decide +kernel) rfl, zat 1011 (by decide +kernel) rfl, by decide +kernel⟩
def rm_X6_unit : Room := { frames := 1, cells := 0, slots := 0, locals := 22 }
abbrev K_X6_unit := CT yX6_unit cX6_unit 3 (some .int) rm_X6_unit
abbrev W_X6_unit (Q : Option Value → zH → Prop) := WG RX6 cX6_unit 3 (some .int) rm_X6_unit 0 0 zX0 (zEm Q)
theorem b_X6_unit : zMB yX6_unit cX6_unit 3 (some .int) 2 := ⟨zat 58 (by decide +kernel) rfl, zat 1026 (by decide +kernel) rfl, by decide +kernel⟩
def rm_X6_step : Room := { frames := 2, cells := 0, slots := 0, locals := 44 }
abbrev K_X6_step := CT yX6_step cX6_step 3 (some .int) rm_X6_step
abbrev W_X6_step (Q : Option Value → zH → Prop) := WG RX6 cX6_step 3 (some .int) rm_X6_step 0 0 zX0 (zEm Q)
theorem b_X6_step : zMB yX6_step cX6_step 3 (some .int) 2 := ⟨zat 58 (by decide +kernel) rfl, zat 1022 (by decide +kernel) rfl, by decide +kernel⟩
def rm_X6_missOf : Room := { frames := 3, cells := 0, slots := 0, locals := 66 }
abbrev K_X6_missOf := CT yX6_missOf cX6_missOf 4 (some .int) rm_X6_missOf
abbrev W_X6_missOf (Q : Option Value → zH → Prop) := WG RX6 cX6_missOf 4 (some .int) rm_X6_missOf 0 0 zX0 (zEm Q)
theorem b_X6_missOf : zMB yX6_missOf cX6_missOf 4 (some .int) 1 := ⟨zat 58 (by decide +kernel) rfl, zat 1037 (by decide +kernel) rfl, by decide +kernel⟩
def rm_X6_allWeights : Room := { frames := 3, cells := 0, slots := 0, locals := 75 }
abbrev K_X6_allWeights := CT yX6_allWeights cX6_allWeights 3 (some .int) rm_X6_allWeights
abbrev W_X6_allWeights (Q : Option Value → zH → Prop) := WG RX6 cX6_allWeights 3 (some .int) rm_X6_allWeights 0 0 zX0 (zEm Q)
theorem b_X6_allWeights : zMB yX6_allWeights cX6_allWeights 3 (some .int) 0 := ⟨zat 58 (by decide +kernel) rfl, zat 1052 (by decide +kernel) rfl, by decide +kernel⟩
def rm_X6_keepsAside : Room := { frames := 1, cells := 0, slots := 0, locals := 24 }
abbrev K_X6_keepsAside := CT yX6_keepsAside cX6_keepsAside 1 none rm_X6_keepsAside
abbrev W_X6_keepsAside (Q : Option Value → zH → Prop) := WG RX6 cX6_keepsAside 1 none rm_X6_keepsAside 0 0 zX0 (zEm Q)
theorem b_X6_keepsAside : zMB yX6_keepsAside cX6_keepsAside 1 none 0 := ⟨zat 58 (by decide +kernel) rfl, zat 908 (by decide +kernel) rfl, by decide +kernel⟩
def rm_X6_changed : Room := { frames := 1, cells := 0, slots := 0, locals := 24 }
abbrev K_X6_changed := CT yX6_changed cX6_changed 2 none rm_X6_changed
abbrev W_X6_changed (Q : Option Value → zH → Prop) := WG RX6 cX6_changed 2 none rm_X6_changed 0 0 zX0 (zEm Q)
theorem b_X6_changed : zMB yX6_changed cX6_changed 2 none 0 := ⟨zat 58 (by decide +kernel) rfl, zat 912 (by decide +kernel) rfl, by decide +kernel⟩
def rm_X6_undo : Room := { frames := 1, cells := 0, slots := 0, locals := 24 }
abbrev K_X6_undo := CT yX6_undo cX6_undo 1 (some .int) rm_X6_undo
abbrev W_X6_undo (Q : Option Value → zH → Prop) := WG RX6 cX6_undo 1 (some .int) rm_X6_undo 0 0 zX0 (zEm Q)
theorem b_X6_undo : zMB yX6_undo cX6_undo 1 (some .int) 0 := ⟨zat 58 (by decide +kernel) rfl, zat 885 (by decide +kernel) rfl, by decide +kernel⟩
def rm_X6_wrongSide : Room := { frames := 1, cells := 0, slots := 0, locals := 20 }
abbrev K_X6_wrongSide := CT yX6_wrongSide cX6_wrongSide 4 (some .int) rm_X6_wrongSide
abbrev W_X6_wrongSide (Q : Option Value → zH → Prop) := WG RX6 cX6_wrongSide 4 (some .int) rm_X6_wrongSide 0 0 zX0 (zEm Q)
theorem b_X6_wrongSide : zMB yX6_wrongSide cX6_wrongSide 4 (some .int) 3 := ⟨zat 58 (by decide +kernel) rfl, zat 900 (by decide +kernel) rfl, by decide +kernel⟩
def rm_X6_insertAt : Room := { frames := 1, cells := 0, slots := 0, locals := 20 }
abbrev K_X6_insertAt := CT yX6_insertAt cX6_insertAt 6 none rm_X6_insertAt
abbrev W_X6_insertAt (Q : Option Value → zH → Prop) := WG RX6 cX6_insertAt 6 none rm_X6_insertAt 0 0 zX0 (zEm Q)
theorem b_X6_insertAt : zMB yX6_insertAt cX6_insertAt 6 none 4 := ⟨zat 58 (by decide +kernel) rfl, zat 916 (by decide +kernel) rfl, by decide +kernel⟩
def rm_X6_goneAt : Room := { frames := 1, cells := 0, slots := 0, locals := 20 }
abbrev K_X6_goneAt := CT yX6_goneAt cX6_goneAt 3 none rm_X6_goneAt
abbrev W_X6_goneAt (Q : Option Value → zH → Prop) := WG RX6 cX6_goneAt 3 none rm_X6_goneAt 0 0 zX0 (zEm Q)
theorem b_X6_goneAt : zMB yX6_goneAt cX6_goneAt 3 none 1 := ⟨zat 58 (by decide +kernel) rfl, zat 952 (by decide +kernel) rfl, by decide +kernel⟩
def rm_X6_turns : Room := { frames := 1, cells := 0, slots := 0, locals := 20 }
abbrev K_X6_turns := CT yX6_turns cX6_turns 5 none rm_X6_turns
abbrev W_X6_turns (Q : Option Value → zH → Prop) := WG RX6 cX6_turns 5 none rm_X6_turns 0 0 zX0 (zEm Q)
theorem b_X6_turns : zMB yX6_turns cX6_turns 5 none 0 := ⟨zat 58 (by decide +kernel) rfl, zat 960 (by decide +kernel) rfl, by decide +kernel⟩
def rm_X6_wrongKind : Room := { frames := 2, cells := 0, slots := 0, locals := 46 }
abbrev K_X6_wrongKind := CT yX6_wrongKind cX6_wrongKind 4 (some .int) rm_X6_wrongKind
abbrev W_X6_wrongKind (Q : Option Value → zH → Prop) := WG RX6 cX6_wrongKind 4 (some .int) rm_X6_wrongKind 0 0 zX0 (zEm Q)
theorem b_X6_wrongKind : zMB yX6_wrongKind cX6_wrongKind 4 (some .int) 3 := ⟨zat 58 (by decide +kernel) rfl, zat 935 (by decide +kernel) rfl, by decide +kernel⟩
def rm_X6_becomes : Room := { frames := 0, cells := 0, slots := 0, locals := 0 }
abbrev K_X6_becomes := CT yX6_becomes cX6_becomes 4 none rm_X6_becomes
abbrev W_X6_becomes (Q : Option Value → zH → Prop) := WG RX6 cX6_becomes 4 none rm_X6_becomes 0 0 zX0 (zEm Q)
theorem b_X6_becomes : zMB yX6_becomes cX6_becomes 4 none 3 := ⟨zat 58 (by decide +kernel) rfl, zat 944 (by decide +kernel) rfl, by decide +kernel⟩
def rm_X6_side : Room := { frames := 2, cells := 0, slots := 0, locals := 45 }
abbrev K_X6_side := CT yX6_side cX6_side 5 (some .int) rm_X6_side
abbrev W_X6_side (Q : Option Value → zH → Prop) := WG RX6 cX6_side 5 (some .int) rm_X6_side 0 0 zX0 (zEm Q)
theorem b_X6_side : zMB yX6_side cX6_side 5 (some .int) 3 := ⟨zat 58 (by decide +kernel) rfl, zat 896 (by decide +kernel) rfl, by decide +kernel⟩
def rm_X6_insert : Room := { frames := 2, cells := 0, slots := 0, locals := 46 }
abbrev K_X6_insert := CT yX6_insert cX6_insert 6 (some .int) rm_X6_insert
abbrev W_X6_insert (Q : Option Value → zH → Prop) := WG RX6 cX6_insert 6 (some .int) rm_X6_insert 0 0 zX0 (zEm Q)
theorem b_X6_insert : zMB yX6_insert cX6_insert 6 (some .int) 4 := ⟨zat 58 (by decide +kernel) rfl, zat 920 (by decide +kernel) rfl, by decide +kernel⟩
def rm_X6_kind : Room := { frames := 3, cells := 0, slots := 0, locals := 69 }
abbrev K_X6_kind := CT yX6_kind cX6_kind 6 (some .int) rm_X6_kind
abbrev W_X6_kind (Q : Option Value → zH → Prop) := WG RX6 cX6_kind 6 (some .int) rm_X6_kind 0 0 zX0 (zEm Q)
theorem b_X6_kind : zMB yX6_kind cX6_kind 6 (some .int) 3 := ⟨zat 58 (by decide +kernel) rfl, zat 931 (by decide +kernel) rfl, by decide +kernel⟩
def rm_X6_gone : Room := { frames := 2, cells := 0, slots := 0, locals := 46 }
abbrev K_X6_gone := CT yX6_gone cX6_gone 2 (some .int) rm_X6_gone
abbrev W_X6_gone (Q : Option Value → zH → Prop) := WG RX6 cX6_gone 2 (some .int) rm_X6_gone 0 0 zX0 (zEm Q)
theorem b_X6_gone : zMB yX6_gone cX6_gone 2 (some .int) 1 := ⟨zat 58 (by decide +kernel) rfl, zat 948 (by decide +kernel) rfl, by decide +kernel⟩
def rm_X6_turned : Room := { frames := 2, cells := 0, slots := 0, locals := 45 }
abbrev K_X6_turned := CT yX6_turned cX6_turned 1 (some .int) rm_X6_turned
abbrev W_X6_turned (Q : Option Value → zH → Prop) := WG RX6 cX6_turned 1 (some .int) rm_X6_turned 0 0 zX0 (zEm Q)
theorem b_X6_turned : zMB yX6_turned cX6_turned 1 (some .int) 0 := ⟨zat 58 (by decide +kernel) rfl, zat 956 (by decide +kernel) rfl, by decide +kernel⟩
def rm_X6_letter : Room := { frames := 1, cells := 0, slots := 0, locals := 21 }
abbrev K_X6_letter := CT yX6_letter cX6_letter 2 (some .int) rm_X6_letter
abbrev W_X6_letter (Q : Option Value → zH → Prop) := WG RX6 cX6_letter 2 (some .int) rm_X6_letter 0 0 zX0 (zEm Q)
theorem b_X6_letter : zMB yX6_letter cX6_letter 2 (some .int) 1 := ⟨zat 58 (by decide +kernel) rfl, zat 964 (by decide +kernel) rfl, by decide +kernel⟩
def rm_X6_here : Room := { frames := 0, cells := 0, slots := 0, locals := 0 }
abbrev K_X6_here := CT yX6_here cX6_here 1 (some .int) rm_X6_here
abbrev W_X6_here (Q : Option Value → zH → Prop) := WG RX6 cX6_here 1 (some .int) rm_X6_here 0 0 zX0 (zEm Q)
theorem b_X6_here : zMB yX6_here cX6_here 1 (some .int) 0 := ⟨zat 58 (by decide +kernel) rfl, zat 980 (by decide +kernel) rfl, by decide +kernel⟩
def rm_X6_takes : Room := { frames := 1, cells := 0, slots := 0, locals := 20 }
abbrev K_X6_takes := CT yX6_takes cX6_takes 2 none rm_X6_takes
abbrev W_X6_takes (Q : Option Value → zH → Prop) := WG RX6 cX6_takes 2 none rm_X6_takes 0 0 zX0 (zEm Q)
theorem b_X6_takes : zMB yX6_takes cX6_takes 2 none 1 := ⟨zat 58 (by decide +kernel) rfl, zat 990 (by decide +kernel) rfl, by decide +kernel⟩
def rm_X6_digit : Room := { frames := 1, cells := 0, slots := 0, locals := 25 }
abbrev K_X6_digit := CT yX6_digit cX6_digit 5 none rm_X6_digit
abbrev W_X6_digit (Q : Option Value → zH → Prop) := WG RX6 cX6_digit 5 none rm_X6_digit 0 0 zX0 (zEm Q)
theorem b_X6_digit : zMB yX6_digit cX6_digit 5 none 2 := ⟨zat 58 (by decide +kernel) rfl, zat 984 (by decide +kernel) rfl, by decide +kernel⟩
def rm_X6_bearing : Room := { frames := 2, cells := 0, slots := 0, locals := 49 }
abbrev K_X6_bearing := CT yX6_bearing cX6_bearing 1 none rm_X6_bearing
abbrev W_X6_bearing (Q : Option Value → zH → Prop) := WG RX6 cX6_bearing 1 none rm_X6_bearing 0 0 zX0 (zEm Q)
theorem b_X6_bearing : zMB yX6_bearing cX6_bearing 1 none 0 := ⟨zat 58 (by decide +kernel) rfl, zat 994 (by decide +kernel) rfl, by decide +kernel⟩
def rm_X6_statement : Room := { frames := 3, cells := 0, slots := 0, locals := 69 }
abbrev K_X6_statement := CT yX6_statement cX6_statement 2 (some .int) rm_X6_statement
abbrev W_X6_statement (Q : Option Value → zH → Prop) := WG RX6 cX6_statement 2 (some .int) rm_X6_statement 0 0 zX0 (zEm Q)
theorem b_X6_statement : zMB yX6_statement cX6_statement 2 (some .int) 0 := ⟨zat 58 (by decide +kernel) rfl, zat 976 (by decide +kernel) rfl, by decide +kernel⟩
def rm_X6_isDone : Room := { frames := 3, cells := 0, slots := 0, locals := 69 }
abbrev K_X6_isDone := CT yX6_isDone cX6_isDone 3 (some .boolean) rm_X6_isDone
abbrev W_X6_isDone (Q : Option Value → zH → Prop) := WG RX6 cX6_isDone 3 (some .boolean) rm_X6_isDone 0 0 zX0 (zEm Q)
theorem b_X6_isDone : zMB yX6_isDone cX6_isDone 3 (some .boolean) 1 := ⟨zat 58 (by decide +kernel) rfl, zat 998 (by decide +kernel) rfl, by decide +kernel⟩
def rm_X6_goesThrough : Room := { frames := 4, cells := 0, slots := 0, locals := 91 }
abbrev K_X6_goesThrough := CT yX6_goesThrough cX6_goesThrough 5 (some .int) rm_X6_goesThrough
abbrev W_X6_goesThrough (Q : Option Value → zH → Prop) := WG RX6 cX6_goesThrough 5 (some .int) rm_X6_goesThrough 0 0 zX0 (zEm Q)
theorem b_X6_goesThrough : zMB yX6_goesThrough cX6_goesThrough 5 (some .int) 1 := ⟨zat 58 (by decide +kernel) rfl, zat 972 (by decide +kernel) rfl, by decide +kernel⟩
def rm_X6_tells : Room := { frames := 5, cells := 0, slots := 0, locals := 115 }
abbrev K_X6_tells := CT yX6_tells cX6_tells 2 (some .int) rm_X6_tells
abbrev W_X6_tells (Q : Option Value → zH → Prop) := WG RX6 cX6_tells 2 (some .int) rm_X6_tells 0 0 zX0 (zEm Q)
theorem b_X6_tells : zMB yX6_tells cX6_tells 2 (some .int) 0 := ⟨zat 58 (by decide +kernel) rfl, zat 968 (by decide +kernel) rfl, by decide +kernel⟩
def rm_X6_of : Room := { frames := 3, cells := 0, slots := 0, locals := 75 }
abbrev K_X6_of := CT yX6_of cX6_of 3 (some .long) rm_X6_of
abbrev W_X6_of (Q : Option Value → zH → Prop) := WG RX6 cX6_of 3 (some .long) rm_X6_of 0 0 zX0 (zEm Q)
theorem b_X6_of : zMB yX6_of cX6_of 3 (some .long) 2 := ⟨zat 58 (by decide +kernel) rfl, zat 1002 (by decide +kernel) rfl, by decide +kernel⟩
def rm_X6_miss : Room := { frames := 4, cells := 0, slots := 0, locals := 89 }
abbrev K_X6_miss := CT yX6_miss cX6_miss 2 (some .long) rm_X6_miss
abbrev W_X6_miss (Q : Option Value → zH → Prop) := WG RX6 cX6_miss 2 (some .long) rm_X6_miss 0 0 zX0 (zEm Q)
theorem b_X6_miss : zMB yX6_miss cX6_miss 2 (some .long) 1 := ⟨zat 58 (by decide +kernel) rfl, zat 1033 (by decide +kernel) rfl, by decide +kernel⟩
def rm_X6_common : Room := { frames := 0, cells := 0, slots := 0, locals := 0 }
abbrev K_X6_common := CT yX6_common cX6_common 10 (some .long) rm_X6_common
abbrev W_X6_common (Q : Option Value → zH → Prop) := WG RX6 cX6_common 10 (some .long) rm_X6_common 0 0 zX0 (zEm Q)
theorem b_X6_common : zMB yX6_common cX6_common 10 (some .long) 2 := ⟨zat 58 (by decide +kernel) rfl, zat 1058 (by decide +kernel) rfl, by decide +kernel⟩
def rm_X6_lowest : Room := { frames := 1, cells := 0, slots := 0, locals := 29 }
abbrev K_X6_lowest := CT yX6_lowest cX6_lowest 7 (some .long) rm_X6_lowest
abbrev W_X6_lowest (Q : Option Value → zH → Prop) := WG RX6 cX6_lowest 7 (some .long) rm_X6_lowest 0 0 zX0 (zEm Q)
theorem b_X6_lowest : zMB yX6_lowest cX6_lowest 7 (some .long) 3 := ⟨zat 58 (by decide +kernel) rfl, zat 1055 (by decide +kernel) rfl, by decide +kernel⟩
def rm_X6_spreadsAll : Room := { frames := 4, cells := 0, slots := 0, locals := 97 }
abbrev K_X6_spreadsAll := CT yX6_spreadsAll cX6_spreadsAll 4 (some .boolean) rm_X6_spreadsAll
abbrev W_X6_spreadsAll (Q : Option Value → zH → Prop) := WG RX6 cX6_spreadsAll 4 (some .boolean) rm_X6_spreadsAll 0 0 zX0 (zEm Q)
theorem b_X6_spreadsAll : zMB yX6_spreadsAll cX6_spreadsAll 4 (some .boolean) 0 := ⟨zat 58 (by decide +kernel) rfl, zat 1048 (by decide +kernel) rfl, by decide +kernel⟩
def rm_X6_isPart : Room := { frames := 1, cells := 0, slots := 0, locals := 25 }
abbrev K_X6_isPart := CT yX6_isPart cX6_isPart 1 (some .boolean) rm_X6_isPart
abbrev W_X6_isPart (Q : Option Value → zH → Prop) := WG RX6 cX6_isPart 1 (some .boolean) rm_X6_isPart 0 0 zX0 (zEm Q)
theorem b_X6_isPart : zMB yX6_isPart cX6_isPart 1 (some .boolean) 1 := ⟨zat 58 (by decide +kernel) rfl, zat 1044 (by decide +kernel) rfl, by decide +kernel⟩
def rm_X6_spread : Room := { frames := 5, cells := 0, slots := 0, locals := 120 }
abbrev K_X6_spread := CT yX6_spread cX6_spread 4 (some .long) rm_X6_spread
abbrev W_X6_spread (Q : Option Value → zH → Prop) := WG RX6 cX6_spread 4 (some .long) rm_X6_spread 0 0 zX0 (zEm Q)
theorem b_X6_spread : zMB yX6_spread cX6_spread 4 (some .long) 3 := ⟨zat 58 (by decide +kernel) rfl, zat 1041 (by decide +kernel) rfl, by decide +kernel⟩
def rm_X6_corner : Room := { frames := 5, cells := 0, slots := 0, locals := 120 }
abbrev K_X6_corner := CT yX6_corner cX6_corner 4 (some .long) rm_X6_corner
abbrev W_X6_corner (Q : Option Value → zH → Prop) := WG RX6 cX6_corner 4 (some .long) rm_X6_corner 0 0 zX0 (zEm Q)
theorem b_X6_corner : zMB yX6_corner cX6_corner 4 (some .long) 3 := ⟨zat 58 (by decide +kernel) rfl, zat 1063 (by decide +kernel) rfl, by decide +kernel⟩
def rm_X6_next : Room := { frames := 1, cells := 0, slots := 0, locals := 20 }
abbrev K_X6_next := CT yX6_next cX6_next 2 (some .int) rm_X6_next
abbrev W_X6_next (Q : Option Value → zH → Prop) := WG RX6 cX6_next 2 (some .int) rm_X6_next 0 0 zX0 (zEm Q)
theorem b_X6_next : zMB yX6_next cX6_next 2 (some .int) 1 := ⟨zat 58 (by decide +kernel) rfl, zat 1075 (by decide +kernel) rfl, by decide +kernel⟩
def rm_X6_x : Room := { frames := 0, cells := 0, slots := 0, locals := 0 }
abbrev K_X6_x := CT yX6_x cX6_x 2 (some .long) rm_X6_x
abbrev W_X6_x (Q : Option Value → zH → Prop) := WG RX6 cX6_x 2 (some .long) rm_X6_x 0 0 zX0 (zEm Q)
theorem b_X6_x : zMB yX6_x cX6_x 2 (some .long) 1 := ⟨zat 58 (by decide +kernel) rfl, zat 1071 (by decide +kernel) rfl, by decide +kernel⟩
def rm_X6_y : Room := { frames := 0, cells := 0, slots := 0, locals := 0 }
abbrev K_X6_y := CT yX6_y cX6_y 2 (some .long) rm_X6_y
abbrev W_X6_y (Q : Option Value → zH → Prop) := WG RX6 cX6_y 2 (some .long) rm_X6_y 0 0 zX0 (zEm Q)
theorem b_X6_y : zMB yX6_y cX6_y 2 (some .long) 1 := ⟨zat 58 (by decide +kernel) rfl, zat 1079 (by decide +kernel) rfl, by decide +kernel⟩
def rm_X6_cross : Room := { frames := 0, cells := 0, slots := 0, locals := 0 }
abbrev K_X6_cross := CT yX6_cross cX6_cross 13 (some .long) rm_X6_cross
abbrev W_X6_cross (Q : Option Value → zH → Prop) := WG RX6 cX6_cross 13 (some .long) rm_X6_cross 0 0 zX0 (zEm Q)
theorem b_X6_cross : zMB yX6_cross cX6_cross 13 (some .long) 6 := ⟨zat 58 (by decide +kernel) rfl, zat 1112 (by decide +kernel) rfl, by decide +kernel⟩
def rm_X6_three : Room := { frames := 1, cells := 0, slots := 0, locals := 32 }
abbrev K_X6_three := CT yX6_three cX6_three 4 (some .long) rm_X6_three
abbrev W_X6_three (Q : Option Value → zH → Prop) := WG RX6 cX6_three 4 (some .long) rm_X6_three 0 0 zX0 (zEm Q)
theorem b_X6_three : zMB yX6_three cX6_three 4 (some .long) 3 := ⟨zat 58 (by decide +kernel) rfl, zat 1108 (by decide +kernel) rfl, by decide +kernel⟩
def rm_X6_areaOf : Room := { frames := 2, cells := 0, slots := 0, locals := 55 }
abbrev K_X6_areaOf := CT yX6_areaOf cX6_areaOf 4 (some .long) rm_X6_areaOf
abbrev W_X6_areaOf (Q : Option Value → zH → Prop) := WG RX6 cX6_areaOf 4 (some .long) rm_X6_areaOf 0 0 zX0 (zEm Q)
theorem b_X6_areaOf : zMB yX6_areaOf cX6_areaOf 4 (some .long) 2 := ⟨zat 58 (by decide +kernel) rfl, zat 1083 (by decide +kernel) rfl, by decide +kernel⟩
def rm_X6_area : Room := { frames := 5, cells := 0, slots := 0, locals := 120 }
abbrev K_X6_area := CT yX6_area cX6_area 5 (some .long) rm_X6_area
abbrev W_X6_area (Q : Option Value → zH → Prop) := WG RX6 cX6_area 5 (some .long) rm_X6_area 0 0 zX0 (zEm Q)
theorem b_X6_area : zMB yX6_area cX6_area 5 (some .long) 1 := ⟨zat 58 (by decide +kernel) rfl, zat 1067 (by decide +kernel) rfl, by decide +kernel⟩
def rm_X6_turn : Room := { frames := 5, cells := 0, slots := 0, locals := 120 }
abbrev K_X6_turn := CT yX6_turn cX6_turn 13 (some .int) rm_X6_turn
abbrev W_X6_turn (Q : Option Value → zH → Prop) := WG RX6 cX6_turn 13 (some .int) rm_X6_turn 0 0 zX0 (zEm Q)
theorem b_X6_turn : zMB yX6_turn cX6_turn 13 (some .int) 1 := ⟨zat 58 (by decide +kernel) rfl, zat 1088 (by decide +kernel) rfl, by decide +kernel⟩
def rm_X6_sign : Room := { frames := 0, cells := 0, slots := 0, locals := 0 }
abbrev K_X6_sign := CT yX6_sign cX6_sign 2 (some .int) rm_X6_sign
abbrev W_X6_sign (Q : Option Value → zH → Prop) := WG RX6 cX6_sign 2 (some .int) rm_X6_sign 0 0 zX0 (zEm Q)
theorem b_X6_sign : zMB yX6_sign cX6_sign 2 (some .int) 1 := ⟨zat 58 (by decide +kernel) rfl, zat 1120 (by decide +kernel) rfl, by decide +kernel⟩
def rm_X6_isBetween : Room := { frames := 1, cells := 0, slots := 0, locals := 30 }
abbrev K_X6_isBetween := CT yX6_isBetween cX6_isBetween 6 (some .boolean) rm_X6_isBetween
abbrev W_X6_isBetween (Q : Option Value → zH → Prop) := WG RX6 cX6_isBetween 6 (some .boolean) rm_X6_isBetween 0 0 zX0 (zEm Q)
theorem b_X6_isBetween : zMB yX6_isBetween cX6_isBetween 6 (some .boolean) 3 := ⟨zat 58 (by decide +kernel) rfl, zat 1115 (by decide +kernel) rfl, by decide +kernel⟩
def rm_X6_isOn : Room := { frames := 2, cells := 0, slots := 0, locals := 55 }
abbrev K_X6_isOn := CT yX6_isOn cX6_isOn 4 (some .boolean) rm_X6_isOn
abbrev W_X6_isOn (Q : Option Value → zH → Prop) := WG RX6 cX6_isOn 4 (some .boolean) rm_X6_isOn 0 0 zX0 (zEm Q)
theorem b_X6_isOn : zMB yX6_isOn cX6_isOn 4 (some .boolean) 3 := ⟨zat 58 (by decide +kernel) rfl, zat 1104 (by decide +kernel) rfl, by decide +kernel⟩
def rm_X6_doCross : Room := { frames := 3, cells := 0, slots := 0, locals := 78 }
abbrev K_X6_doCross := CT yX6_doCross cX6_doCross 5 (some .boolean) rm_X6_doCross
abbrev W_X6_doCross (Q : Option Value → zH → Prop) := WG RX6 cX6_doCross 5 (some .boolean) rm_X6_doCross 0 0 zX0 (zEm Q)
theorem b_X6_doCross : zMB yX6_doCross cX6_doCross 5 (some .boolean) 2 := ⟨zat 58 (by decide +kernel) rfl, zat 1100 (by decide +kernel) rfl, by decide +kernel⟩
def rm_X6_areNeighbours : Room := { frames := 2, cells := 0, slots := 0, locals := 41 }
abbrev K_X6_areNeighbours := CT yX6_areNeighbours cX6_areNeighbours 3 (some .boolean) rm_X6_areNeighbours
abbrev W_X6_areNeighbours (Q : Option Value → zH → Prop) := WG RX6 cX6_areNeighbours 3 (some .boolean) rm_X6_areNeighbours 0 0 zX0 (zEm Q)
theorem b_X6_areNeighbours : zMB yX6_areNeighbours cX6_areNeighbours 3 (some .boolean) 2 := ⟨zat 58 (by decide +kernel) rfl, zat 1096 (by decide +kernel) rfl, by decide +kernel⟩
def rm_X6_cross_ : Room := { frames := 5, cells := 0, slots := 0, locals := 120 }
abbrev K_X6_cross_ := CT yX6_cross_ cX6_cross_ 3 (some .int) rm_X6_cross_
abbrev W_X6_cross_ (Q : Option Value → zH → Prop) := WG RX6 cX6_cross_ 3 (some .int) rm_X6_cross_ 0 0 zX0 (zEm Q)
theorem b_X6_cross_ : zMB yX6_cross_ cX6_cross_ 3 (some .int) 2 := ⟨zat 58 (by decide +kernel) rfl, zat 1092 (by decide +kernel) rfl, by decide +kernel⟩
def rm_X6_crossings : Room := { frames := 4, cells := 0, slots := 0, locals := 102 }
abbrev K_X6_crossings := CT yX6_crossings cX6_crossings 4 (some .int) rm_X6_crossings
abbrev W_X6_crossings (Q : Option Value → zH → Prop) := WG RX6 cX6_crossings 4 (some .int) rm_X6_crossings 0 0 zX0 (zEm Q)
theorem b_X6_crossings : zMB yX6_crossings cX6_crossings 4 (some .int) 0 := ⟨zat 58 (by decide +kernel) rfl, zat 1128 (by decide +kernel) rfl, by decide +kernel⟩
def rm_X6_crosses : Room := { frames := 5, cells := 0, slots := 0, locals := 125 }
abbrev K_X6_crosses := CT yX6_crosses cX6_crosses 1 (some .int) rm_X6_crosses
abbrev W_X6_crosses (Q : Option Value → zH → Prop) := WG RX6 cX6_crosses 1 (some .int) rm_X6_crosses 0 0 zX0 (zEm Q)
theorem b_X6_crosses : zMB yX6_crosses cX6_crosses 1 (some .int) 0 := ⟨zat 58 (by decide +kernel) rfl, zat 1124 (by decide +kernel) rfl, by decide +kernel⟩
def rm_X6_isSamePoint : Room := { frames := 1, cells := 0, slots := 0, locals := 21 }
abbrev K_X6_isSamePoint := CT yX6_isSamePoint cX6_isSamePoint 3 (some .boolean) rm_X6_isSamePoint
abbrev W_X6_isSamePoint (Q : Option Value → zH → Prop) := WG RX6 cX6_isSamePoint 3 (some .boolean) rm_X6_isSamePoint 0 0 zX0 (zEm Q)
theorem b_X6_isSamePoint : zMB yX6_isSamePoint cX6_isSamePoint 3 (some .boolean) 2 := ⟨zat 58 (by decide +kernel) rfl, zat 1144 (by decide +kernel) rfl, by decide +kernel⟩
def rm_X6_isFirstThere : Room := { frames := 2, cells := 0, slots := 0, locals := 43 }
abbrev K_X6_isFirstThere := CT yX6_isFirstThere cX6_isFirstThere 3 (some .boolean) rm_X6_isFirstThere
abbrev W_X6_isFirstThere (Q : Option Value → zH → Prop) := WG RX6 cX6_isFirstThere 3 (some .boolean) rm_X6_isFirstThere 0 0 zX0 (zEm Q)
theorem b_X6_isFirstThere : zMB yX6_isFirstThere cX6_isFirstThere 3 (some .boolean) 1 := ⟨zat 58 (by decide +kernel) rfl, zat 1140 (by decide +kernel) rfl, by decide +kernel⟩
def rm_X6_isWithin : Room := { frames := 2, cells := 0, slots := 0, locals := 55 }
abbrev K_X6_isWithin := CT yX6_isWithin cX6_isWithin 8 (some .boolean) rm_X6_isWithin
abbrev W_X6_isWithin (Q : Option Value → zH → Prop) := WG RX6 cX6_isWithin 8 (some .boolean) rm_X6_isWithin 0 0 zX0 (zEm Q)
theorem b_X6_isWithin : zMB yX6_isWithin cX6_isWithin 8 (some .boolean) 4 := ⟨zat 58 (by decide +kernel) rfl, zat 1152 (by decide +kernel) rfl, by decide +kernel⟩
def rm_X6_isCovered : Room := { frames := 3, cells := 0, slots := 0, locals := 82 }
abbrev K_X6_isCovered := CT yX6_isCovered cX6_isCovered 5 (some .boolean) rm_X6_isCovered
abbrev W_X6_isCovered (Q : Option Value → zH → Prop) := WG RX6 cX6_isCovered 5 (some .boolean) rm_X6_isCovered 0 0 zX0 (zEm Q)
theorem b_X6_isCovered : zMB yX6_isCovered cX6_isCovered 5 (some .boolean) 1 := ⟨zat 58 (by decide +kernel) rfl, zat 1148 (by decide +kernel) rfl, by decide +kernel⟩
def rm_X6_outlineBits : Room := { frames := 4, cells := 0, slots := 0, locals := 106 }
abbrev K_X6_outlineBits := CT yX6_outlineBits cX6_outlineBits 3 (some .int) rm_X6_outlineBits
abbrev W_X6_outlineBits (Q : Option Value → zH → Prop) := WG RX6 cX6_outlineBits 3 (some .int) rm_X6_outlineBits 0 0 zX0 (zEm Q)
theorem b_X6_outlineBits : zMB yX6_outlineBits cX6_outlineBits 3 (some .int) 0 := ⟨zat 58 (by decide +kernel) rfl, zat 1136 (by decide +kernel) rfl, by decide +kernel⟩
def rm_X6_bits : Room := { frames := 0, cells := 0, slots := 0, locals := 0 }
abbrev K_X6_bits := CT yX6_bits cX6_bits 3 (some .int) rm_X6_bits
abbrev W_X6_bits (Q : Option Value → zH → Prop) := WG RX6 cX6_bits 3 (some .int) rm_X6_bits 0 0 zX0 (zEm Q)
theorem b_X6_bits : zMB yX6_bits cX6_bits 3 (some .int) 1 := ⟨zat 58 (by decide +kernel) rfl, zat 1155 (by decide +kernel) rfl, by decide +kernel⟩
def rm_X6_outline : Room := { frames := 5, cells := 0, slots := 0, locals := 128 }
abbrev K_X6_outline := CT yX6_outline cX6_outline 2 (some .int) rm_X6_outline
abbrev W_X6_outline (Q : Option Value → zH → Prop) := WG RX6 cX6_outline 2 (some .int) rm_X6_outline 0 0 zX0 (zEm Q)
theorem b_X6_outline : zMB yX6_outline cX6_outline 2 (some .int) 1 := ⟨zat 58 (by decide +kernel) rfl, zat 1132 (by decide +kernel) rfl, by decide +kernel⟩
def rm_X6_nextRound : Room := { frames := 2, cells := 0, slots := 0, locals := 55 }
abbrev K_X6_nextRound := CT yX6_nextRound cX6_nextRound 5 (some .int) rm_X6_nextRound
abbrev W_X6_nextRound (Q : Option Value → zH → Prop) := WG RX6 cX6_nextRound 5 (some .int) rm_X6_nextRound 0 0 zX0 (zEm Q)
theorem b_X6_nextRound : zMB yX6_nextRound cX6_nextRound 5 (some .int) 2 := ⟨zat 58 (by decide +kernel) rfl, zat 1163 (by decide +kernel) rfl, by decide +kernel⟩
def rm_X6_hull : Room := { frames := 5, cells := 0, slots := 0, locals := 128 }
abbrev K_X6_hull := CT yX6_hull cX6_hull 9 (some .long) rm_X6_hull
abbrev W_X6_hull (Q : Option Value → zH → Prop) := WG RX6 cX6_hull 9 (some .long) rm_X6_hull 0 0 zX0 (zEm Q)
theorem b_X6_hull : zMB yX6_hull cX6_hull 9 (some .long) 1 := ⟨zat 58 (by decide +kernel) rfl, zat 1159 (by decide +kernel) rfl, by decide +kernel⟩
def rm_X6_lost : Room := { frames := 4, cells := 0, slots := 0, locals := 89 }
abbrev K_X6_lost := CT yX6_lost cX6_lost 3 (some .long) rm_X6_lost
abbrev W_X6_lost (Q : Option Value → zH → Prop) := WG RX6 cX6_lost 3 (some .long) rm_X6_lost 0 0 zX0 (zEm Q)
theorem b_X6_lost : zMB yX6_lost cX6_lost 3 (some .long) 2 := ⟨zat 58 (by decide +kernel) rfl, zat 1167 (by decide +kernel) rfl, by decide +kernel⟩
def rm_X6_lengths : Room := { frames := 4, cells := 0, slots := 0, locals := 89 }
abbrev K_X6_lengths := CT yX6_lengths cX6_lengths 19 (some .long) rm_X6_lengths
abbrev W_X6_lengths (Q : Option Value → zH → Prop) := WG RX6 cX6_lengths 19 (some .long) rm_X6_lengths 0 0 zX0 (zEm Q)
theorem b_X6_lengths : zMB yX6_lengths cX6_lengths 19 (some .long) 4 := ⟨zat 58 (by decide +kernel) rfl, zat 1171 (by decide +kernel) rfl, by decide +kernel⟩
def rm_X6_missWithout : Room := { frames := 4, cells := 0, slots := 0, locals := 89 }
abbrev K_X6_missWithout := CT yX6_missWithout cX6_missWithout 4 (some .int) rm_X6_missWithout
abbrev W_X6_missWithout (Q : Option Value → zH → Prop) := WG RX6 cX6_missWithout 4 (some .int) rm_X6_missWithout 0 0 zX0 (zEm Q)
theorem b_X6_missWithout : zMB yX6_missWithout cX6_missWithout 4 (some .int) 1 := ⟨zat 58 (by decide +kernel) rfl, zat 1179 (by decide +kernel) rfl, by decide +kernel⟩
def rm_X6_worst : Room := { frames := 5, cells := 0, slots := 0, locals := 112 }
abbrev K_X6_worst := CT yX6_worst cX6_worst 6 (some .int) rm_X6_worst
abbrev W_X6_worst (Q : Option Value → zH → Prop) := WG RX6 cX6_worst 6 (some .int) rm_X6_worst 0 0 zX0 (zEm Q)
theorem b_X6_worst : zMB yX6_worst cX6_worst 6 (some .int) 1 := ⟨zat 58 (by decide +kernel) rfl, zat 1175 (by decide +kernel) rfl, by decide +kernel⟩
def rm_X6_ahead : Room := { frames := 3, cells := 0, slots := 0, locals := 75 }
abbrev K_X6_ahead := CT yX6_ahead cX6_ahead 4 (some .int) rm_X6_ahead
abbrev W_X6_ahead (Q : Option Value → zH → Prop) := WG RX6 cX6_ahead 4 (some .int) rm_X6_ahead 0 0 zX0 (zEm Q)
theorem b_X6_ahead : zMB yX6_ahead cX6_ahead 4 (some .int) 1 := ⟨zat 58 (by decide +kernel) rfl, zat 1187 (by decide +kernel) rfl, by decide +kernel⟩
def rm_X6_order : Room := { frames := 4, cells := 0, slots := 0, locals := 98 }
abbrev K_X6_order := CT yX6_order cX6_order 3 (some .int) rm_X6_order
abbrev W_X6_order (Q : Option Value → zH → Prop) := WG RX6 cX6_order 3 (some .int) rm_X6_order 0 0 zX0 (zEm Q)
theorem b_X6_order : zMB yX6_order cX6_order 3 (some .int) 1 := ⟨zat 58 (by decide +kernel) rfl, zat 1183 (by decide +kernel) rfl, by decide +kernel⟩
def rm_X6_likely : Room := { frames := 4, cells := 0, slots := 0, locals := 89 }
abbrev K_X6_likely := CT yX6_likely cX6_likely 15 (some .long) rm_X6_likely
abbrev W_X6_likely (Q : Option Value → zH → Prop) := WG RX6 cX6_likely 15 (some .long) rm_X6_likely 0 0 zX0 (zEm Q)
theorem b_X6_likely : zMB yX6_likely cX6_likely 15 (some .long) 3 := ⟨zat 58 (by decide +kernel) rfl, zat 1191 (by decide +kernel) rfl, by decide +kernel⟩
def rm_X6_parcelOf : Room := { frames := 2, cells := 0, slots := 0, locals := 55 }
abbrev K_X6_parcelOf := CT yX6_parcelOf cX6_parcelOf 6 (some .long) rm_X6_parcelOf
abbrev W_X6_parcelOf (Q : Option Value → zH → Prop) := WG RX6 cX6_parcelOf 6 (some .long) rm_X6_parcelOf 0 0 zX0 (zEm Q)
theorem b_X6_parcelOf : zMB yX6_parcelOf cX6_parcelOf 6 (some .long) 2 := ⟨zat 58 (by decide +kernel) rfl, zat 1199 (by decide +kernel) rfl, by decide +kernel⟩
def rm_X6_parcel : Room := { frames := 5, cells := 0, slots := 0, locals := 120 }
abbrev K_X6_parcel := CT yX6_parcel cX6_parcel 4 (some .long) rm_X6_parcel
abbrev W_X6_parcel (Q : Option Value → zH → Prop) := WG RX6 cX6_parcel 4 (some .long) rm_X6_parcel 0 0 zX0 (zEm Q)
theorem b_X6_parcel : zMB yX6_parcel cX6_parcel 4 (some .long) 3 := ⟨zat 58 (by decide +kernel) rfl, zat 1195 (by decide +kernel) rfl, by decide +kernel⟩
def rm_X6_cut : Room := { frames := 5, cells := 0, slots := 0, locals := 120 }
abbrev K_X6_cut := CT yX6_cut cX6_cut 11 (some .long) rm_X6_cut
abbrev W_X6_cut (Q : Option Value → zH → Prop) := WG RX6 cX6_cut 11 (some .long) rm_X6_cut 0 0 zX0 (zEm Q)
theorem b_X6_cut : zMB yX6_cut cX6_cut 11 (some .long) 3 := ⟨zat 58 (by decide +kernel) rfl, zat 1203 (by decide +kernel) rfl, by decide +kernel⟩
def rm_X6_row : Room := { frames := 1, cells := 0, slots := 0, locals := 21 }
abbrev K_X6_row := CT yX6_row cX6_row 2 (some .int) rm_X6_row
abbrev W_X6_row (Q : Option Value → zH → Prop) := WG RX6 cX6_row 2 (some .int) rm_X6_row 0 0 zX0 (zEm Q)
theorem b_X6_row : zMB yX6_row cX6_row 2 (some .int) 1 := ⟨zat 58 (by decide +kernel) rfl, zat 1209 (by decide +kernel) rfl, by decide +kernel⟩
def rm_X6_clear : Room := { frames := 0, cells := 0, slots := 0, locals := 0 }
abbrev K_X6_clear := CT yX6_clear cX6_clear 2 (some .int) rm_X6_clear
abbrev W_X6_clear (Q : Option Value → zH → Prop) := WG RX6 cX6_clear 2 (some .int) rm_X6_clear 0 0 zX0 (zEm Q)
theorem b_X6_clear : zMB yX6_clear cX6_clear 2 (some .int) 0 := ⟨zat 58 (by decide +kernel) rfl, zat 1213 (by decide +kernel) rfl, by decide +kernel⟩
def rm_X6_isRow : Room := { frames := 2, cells := 0, slots := 0, locals := 54 }
abbrev K_X6_isRow := CT yX6_isRow cX6_isRow 4 (some .boolean) rm_X6_isRow
abbrev W_X6_isRow (Q : Option Value → zH → Prop) := WG RX6 cX6_isRow 4 (some .boolean) rm_X6_isRow 0 0 zX0 (zEm Q)
theorem b_X6_isRow : zMB yX6_isRow cX6_isRow 4 (some .boolean) 2 := ⟨zat 58 (by decide +kernel) rfl, zat 1221 (by decide +kernel) rfl, by decide +kernel⟩
def rm_X6_whatIs : Room := { frames := 3, cells := 0, slots := 0, locals := 77 }
abbrev K_X6_whatIs := CT yX6_whatIs cX6_whatIs 5 (some .int) rm_X6_whatIs
abbrev W_X6_whatIs (Q : Option Value → zH → Prop) := WG RX6 cX6_whatIs 5 (some .int) rm_X6_whatIs 0 0 zX0 (zEm Q)
theorem b_X6_whatIs : zMB yX6_whatIs cX6_whatIs 5 (some .int) 2 := ⟨zat 58 (by decide +kernel) rfl, zat 1217 (by decide +kernel) rfl, by decide +kernel⟩
def rm_X6_draw : Room := { frames := 0, cells := 0, slots := 0, locals := 0 }
abbrev K_X6_draw := CT yX6_draw cX6_draw 2 (some .int) rm_X6_draw
abbrev W_X6_draw (Q : Option Value → zH → Prop) := WG RX6 cX6_draw 2 (some .int) rm_X6_draw 0 0 zX0 (zEm Q)
theorem b_X6_draw : zMB yX6_draw cX6_draw 2 (some .int) 1 := ⟨zat 58 (by decide +kernel) rfl, zat 1229 (by decide +kernel) rfl, by decide +kernel⟩
def rm_X6_lots : Room := { frames := 5, cells := 0, slots := 0, locals := 125 }
abbrev K_X6_lots := CT yX6_lots cX6_lots 8 (some .int) rm_X6_lots
abbrev W_X6_lots (Q : Option Value → zH → Prop) := WG RX6 cX6_lots 8 (some .int) rm_X6_lots 0 0 zX0 (zEm Q)
theorem b_X6_lots : zMB yX6_lots cX6_lots 8 (some .int) 3 := ⟨zat 58 (by decide +kernel) rfl, zat 1225 (by decide +kernel) rfl, by decide +kernel⟩
def rm_X6_isList : Room := { frames := 1, cells := 0, slots := 0, locals := 25 }
abbrev K_X6_isList := CT yX6_isList cX6_isList 1 (some .boolean) rm_X6_isList
abbrev W_X6_isList (Q : Option Value → zH → Prop) := WG RX6 cX6_isList 1 (some .boolean) rm_X6_isList 0 0 zX0 (zEm Q)
theorem b_X6_isList : zMB yX6_isList cX6_isList 1 (some .boolean) 1 := ⟨zat 58 (by decide +kernel) rfl, zat 1239 (by decide +kernel) rfl, by decide +kernel⟩
def rm_X6_list : Room := { frames := 2, cells := 0, slots := 0, locals := 45 }
abbrev K_X6_list := CT yX6_list cX6_list 5 (some .int) rm_X6_list
abbrev W_X6_list (Q : Option Value → zH → Prop) := WG RX6 cX6_list 5 (some .int) rm_X6_list 0 0 zX0 (zEm Q)
theorem b_X6_list : zMB yX6_list cX6_list 5 (some .int) 3 := ⟨zat 58 (by decide +kernel) rfl, zat 1236 (by decide +kernel) rfl, by decide +kernel⟩
def rm_X6_lies : Room := { frames := 0, cells := 0, slots := 0, locals := 0 }
abbrev K_X6_lies := CT yX6_lies cX6_lies 5 none rm_X6_lies
abbrev W_X6_lies (Q : Option Value → zH → Prop) := WG RX6 cX6_lies 5 none rm_X6_lies 0 0 zX0 (zEm Q)
theorem b_X6_lies : zMB yX6_lies cX6_lies 5 none 3 := ⟨zat 58 (by decide +kernel) rfl, zat 1247 (by decide +kernel) rfl, by decide +kernel⟩
def rm_X6_put : Room := { frames := 2, cells := 0, slots := 0, locals := 45 }
abbrev K_X6_put := CT yX6_put cX6_put 5 (some .int) rm_X6_put
abbrev W_X6_put (Q : Option Value → zH → Prop) := WG RX6 cX6_put 5 (some .int) rm_X6_put 0 0 zX0 (zEm Q)
theorem b_X6_put : zMB yX6_put cX6_put 5 (some .int) 3 := ⟨zat 58 (by decide +kernel) rfl, zat 1243 (by decide +kernel) rfl, by decide +kernel⟩
def rm_X6_look : Room := { frames := 2, cells := 0, slots := 0, locals := 45 }
abbrev K_X6_look := CT yX6_look cX6_look 3 (some .long) rm_X6_look
abbrev W_X6_look (Q : Option Value → zH → Prop) := WG RX6 cX6_look 3 (some .long) rm_X6_look 0 0 zX0 (zEm Q)
theorem b_X6_look : zMB yX6_look cX6_look 3 (some .long) 2 := ⟨zat 58 (by decide +kernel) rfl, zat 1251 (by decide +kernel) rfl, by decide +kernel⟩
def rm_X6_copy : Room := { frames := 2, cells := 0, slots := 0, locals := 45 }
abbrev K_X6_copy := CT yX6_copy cX6_copy 9 (some .int) rm_X6_copy
abbrev W_X6_copy (Q : Option Value → zH → Prop) := WG RX6 cX6_copy 9 (some .int) rm_X6_copy 0 0 zX0 (zEm Q)
theorem b_X6_copy : zMB yX6_copy cX6_copy 9 (some .int) 5 := ⟨zat 58 (by decide +kernel) rfl, zat 1257 (by decide +kernel) rfl, by decide +kernel⟩
def rm_X6_lays : Room := { frames := 5, cells := 0, slots := 0, locals := 120 }
abbrev K_X6_lays := CT yX6_lays cX6_lays 6 (some .int) rm_X6_lays
abbrev W_X6_lays (Q : Option Value → zH → Prop) := WG RX6 cX6_lays 6 (some .int) rm_X6_lays 0 0 zX0 (zEm Q)
theorem b_X6_lays : zMB yX6_lays cX6_lays 6 (some .int) 2 := ⟨zat 58 (by decide +kernel) rfl, zat 1261 (by decide +kernel) rfl, by decide +kernel⟩
def rm_X6_judge : Room := { frames := 5, cells := 0, slots := 0, locals := 120 }
abbrev K_X6_judge := CT yX6_judge cX6_judge 3 (some .int) rm_X6_judge
abbrev W_X6_judge (Q : Option Value → zH → Prop) := WG RX6 cX6_judge 3 (some .int) rm_X6_judge 0 0 zX0 (zEm Q)
theorem b_X6_judge : zMB yX6_judge cX6_judge 3 (some .int) 1 := ⟨zat 58 (by decide +kernel) rfl, zat 1265 (by decide +kernel) rfl, by decide +kernel⟩
def rm_X6_image : Room := { frames := 1, cells := 0, slots := 0, locals := 24 }
abbrev K_X6_image := CT yX6_image cX6_image 1 (some .int) rm_X6_image
abbrev W_X6_image (Q : Option Value → zH → Prop) := WG RX6 cX6_image 1 (some .int) rm_X6_image 0 0 zX0 (zEm Q)
theorem b_X6_image : zMB yX6_image cX6_image 1 (some .int) 0 := ⟨zat 58 (by decide +kernel) rfl, zat 1269 (by decide +kernel) rfl, by decide +kernel⟩
def rm_X6_on : Room := { frames := 1, cells := 0, slots := 0, locals := 24 }
abbrev K_X6_on := CT yX6_on cX6_on 1 (some .int) rm_X6_on
abbrev W_X6_on (Q : Option Value → zH → Prop) := WG RX6 cX6_on 1 (some .int) rm_X6_on 0 0 zX0 (zEm Q)
theorem b_X6_on : zMB yX6_on cX6_on 1 (some .int) 0 := ⟨zat 58 (by decide +kernel) rfl, zat 1273 (by decide +kernel) rfl, by decide +kernel⟩
def rm_X6_count : Room := { frames := 4, cells := 0, slots := 0, locals := 97 }
abbrev K_X6_count := CT yX6_count cX6_count 2 (some .int) rm_X6_count
abbrev W_X6_count (Q : Option Value → zH → Prop) := WG RX6 cX6_count 2 (some .int) rm_X6_count 0 0 zX0 (zEm Q)
theorem b_X6_count : zMB yX6_count cX6_count 2 (some .int) 1 := ⟨zat 58 (by decide +kernel) rfl, zat 1277 (by decide +kernel) rfl, by decide +kernel⟩
def rm_X0_settle : Room := { frames := 4, cells := 0, slots := 0, locals := 97 }
abbrev K_X0_settle := CT yX0_settle cX0_settle 11 (some .boolean) rm_X0_settle
abbrev W_X0_settle (Q : Option Value → zH → Prop) := WG RX0 cX0_settle 11 (some .boolean) rm_X0_settle 0 0 zX0 (zEm Q)
theorem b_X0_settle : zMB yX0_settle cX0_settle 11 (some .boolean) 1 := ⟨zat 55 (by decide +kernel) rfl, zat 511 (by decide +kernel) rfl, by decide +kernel⟩
def rm_X0_unit : Room := { frames := 0, cells := 0, slots := 0, locals := 0 }
abbrev K_X0_unit := CT yX0_unit cX0_unit 1 (some .long) rm_X0_unit
abbrev W_X0_unit (Q : Option Value → zH → Prop) := WG RX0 cX0_unit 1 (some .long) rm_X0_unit 0 0 zX0 (zEm Q)
theorem b_X0_unit : zMB yX0_unit cX0_unit 1 (some .long) 0 := ⟨zat 55 (by decide +kernel) rfl, zat 555 (by decide +kernel) rfl, by decide +kernel⟩
def rm_X0_round : Room := { frames := 0, cells := 0, slots := 0, locals := 0 }
abbrev K_X0_round := CT yX0_round cX0_round 2 (some .int) rm_X0_round
abbrev W_X0_round (Q : Option Value → zH → Prop) := WG RX0 cX0_round 2 (some .int) rm_X0_round 0 0 zX0 (zEm Q)
theorem b_X0_round : zMB yX0_round cX0_round 2 (some .int) 1 := ⟨zat 55 (by decide +kernel) rfl, zat 547 (by decide +kernel) rfl, by decide +kernel⟩
def rm_X0_leftness : Room := { frames := 0, cells := 0, slots := 0, locals := 0 }
abbrev K_X0_leftness := CT yX0_leftness cX0_leftness 4 (some .long) rm_X0_leftness
abbrev W_X0_leftness (Q : Option Value → zH → Prop) := WG RX0 cX0_leftness 4 (some .long) rm_X0_leftness 0 0 zX0 (zEm Q)
theorem b_X0_leftness : zMB yX0_leftness cX0_leftness 4 (some .long) 3 := ⟨zat 55 (by decide +kernel) rfl, zat 580 (by decide +kernel) rfl, by decide +kernel⟩
def rm_X0_crossProduct : Room := { frames := 0, cells := 0, slots := 0, locals := 0 }
abbrev K_X0_crossProduct := CT yX0_crossProduct cX0_crossProduct 3 (some .long) rm_X0_crossProduct
abbrev W_X0_crossProduct (Q : Option Value → zH → Prop) := WG RX0 cX0_crossProduct 3 (some .long) rm_X0_crossProduct 0 0 zX0 (zEm Q)
theorem b_X0_crossProduct : zMB yX0_crossProduct cX0_crossProduct 3 (some .long) 2 := ⟨zat 55 (by decide +kernel) rfl, zat 551 (by decide +kernel) rfl, by decide +kernel⟩
def rm_X0_crossSum : Room := { frames := 1, cells := 0, slots := 0, locals := 22 }
abbrev K_X0_crossSum := CT yX0_crossSum cX0_crossSum 4 (some .long) rm_X0_crossSum
abbrev W_X0_crossSum (Q : Option Value → zH → Prop) := WG RX0 cX0_crossSum 4 (some .long) rm_X0_crossSum 0 0 zX0 (zEm Q)
theorem b_X0_crossSum : zMB yX0_crossSum cX0_crossSum 4 (some .long) 0 := ⟨zat 55 (by decide +kernel) rfl, zat 543 (by decide +kernel) rfl, by decide +kernel⟩
def rm_X0_turnAt : Room := { frames := 0, cells := 0, slots := 0, locals := 0 }
abbrev K_X0_turnAt := CT yX0_turnAt cX0_turnAt 8 (some .int) rm_X0_turnAt
abbrev W_X0_turnAt (Q : Option Value → zH → Prop) := WG RX0 cX0_turnAt 8 (some .int) rm_X0_turnAt 0 0 zX0 (zEm Q)
theorem b_X0_turnAt : zMB yX0_turnAt cX0_turnAt 8 (some .int) 1 := ⟨zat 55 (by decide +kernel) rfl, zat 564 (by decide +kernel) rfl, by decide +kernel⟩
def rm_X0_areNeighbours : Room := { frames := 1, cells := 0, slots := 0, locals := 21 }
abbrev K_X0_areNeighbours := CT yX0_areNeighbours cX0_areNeighbours 3 (some .boolean) rm_X0_areNeighbours
abbrev W_X0_areNeighbours (Q : Option Value → zH → Prop) := WG RX0 cX0_areNeighbours 3 (some .boolean) rm_X0_areNeighbours 0 0 zX0 (zEm Q)
theorem b_X0_areNeighbours : zMB yX0_areNeighbours cX0_areNeighbours 3 (some .boolean) 2 := ⟨zat 55 (by decide +kernel) rfl, zat 572 (by decide +kernel) rfl, by decide +kernel⟩
def rm_X0_meet : Room := { frames := 2, cells := 0, slots := 0, locals := 53 }
abbrev K_X0_meet := CT yX0_meet cX0_meet 14 (some .boolean) rm_X0_meet
abbrev W_X0_meet (Q : Option Value → zH → Prop) := WG RX0 cX0_meet 14 (some .boolean) rm_X0_meet 0 0 zX0 (zEm Q)
theorem b_X0_meet : zMB yX0_meet cX0_meet 14 (some .boolean) 2 := ⟨zat 55 (by decide +kernel) rfl, zat 576 (by decide +kernel) rfl, by decide +kernel⟩
def rm_X0_isBetween : Room := { frames := 1, cells := 0, slots := 0, locals := 30 }
abbrev K_X0_isBetween := CT yX0_isBetween cX0_isBetween 4 (some .boolean) rm_X0_isBetween
abbrev W_X0_isBetween (Q : Option Value → zH → Prop) := WG RX0 cX0_isBetween 4 (some .boolean) rm_X0_isBetween 0 0 zX0 (zEm Q)
theorem b_X0_isBetween : zMB yX0_isBetween cX0_isBetween 4 (some .boolean) 3 := ⟨zat 55 (by decide +kernel) rfl, zat 587 (by decide +kernel) rfl, by decide +kernel⟩
def rm_X0_meetings : Room := { frames := 3, cells := 0, slots := 0, locals := 86 }
abbrev K_X0_meetings := CT yX0_meetings cX0_meetings 4 (some .int) rm_X0_meetings
abbrev W_X0_meetings (Q : Option Value → zH → Prop) := WG RX0 cX0_meetings 4 (some .int) rm_X0_meetings 0 0 zX0 (zEm Q)
theorem b_X0_meetings : zMB yX0_meetings cX0_meetings 4 (some .int) 0 := ⟨zat 55 (by decide +kernel) rfl, zat 601 (by decide +kernel) rfl, by decide +kernel⟩
def rm_X0_areAtOnePoint : Room := { frames := 0, cells := 0, slots := 0, locals := 0 }
abbrev K_X0_areAtOnePoint := CT yX0_areAtOnePoint cX0_areAtOnePoint 3 (some .boolean) rm_X0_areAtOnePoint
abbrev W_X0_areAtOnePoint (Q : Option Value → zH → Prop) := WG RX0 cX0_areAtOnePoint 3 (some .boolean) rm_X0_areAtOnePoint 0 0 zX0 (zEm Q)
theorem b_X0_areAtOnePoint : zMB yX0_areAtOnePoint cX0_areAtOnePoint 3 (some .boolean) 2 := ⟨zat 55 (by decide +kernel) rfl, zat 619 (by decide +kernel) rfl, by decide +kernel⟩
def rm_X0_isFirstAtItsPoint : Room := { frames := 1, cells := 0, slots := 0, locals := 22 }
abbrev K_X0_isFirstAtItsPoint := CT yX0_isFirstAtItsPoint cX0_isFirstAtItsPoint 3 (some .boolean) rm_X0_isFirstAtItsPoint
abbrev W_X0_isFirstAtItsPoint (Q : Option Value → zH → Prop) := WG RX0 cX0_isFirstAtItsPoint 3 (some .boolean) rm_X0_isFirstAtItsPoint 0 0 zX0 (zEm Q)
theorem b_X0_isFirstAtItsPoint : zMB yX0_isFirstAtItsPoint cX0_isFirstAtItsPoint 3 (some .boolean) 1 := ⟨zat 55 (by decide +kernel) rfl, zat 615 (by decide +kernel) rfl, by decide +kernel⟩
def rm_X0_isEdgeOfAll : Room := { frames := 2, cells := 0, slots := 0, locals := 53 }
abbrev K_X0_isEdgeOfAll := CT yX0_isEdgeOfAll cX0_isEdgeOfAll 7 (some .boolean) rm_X0_isEdgeOfAll
abbrev W_X0_isEdgeOfAll (Q : Option Value → zH → Prop) := WG RX0 cX0_isEdgeOfAll 7 (some .boolean) rm_X0_isEdgeOfAll 0 0 zX0 (zEm Q)
theorem b_X0_isEdgeOfAll : zMB yX0_isEdgeOfAll cX0_isEdgeOfAll 7 (some .boolean) 2 := ⟨zat 55 (by decide +kernel) rfl, zat 627 (by decide +kernel) rfl, by decide +kernel⟩
def rm_X0_isAtOutline : Room := { frames := 3, cells := 0, slots := 0, locals := 79 }
abbrev K_X0_isAtOutline := CT yX0_isAtOutline cX0_isAtOutline 4 (some .boolean) rm_X0_isAtOutline
abbrev W_X0_isAtOutline (Q : Option Value → zH → Prop) := WG RX0 cX0_isAtOutline 4 (some .boolean) rm_X0_isAtOutline 0 0 zX0 (zEm Q)
theorem b_X0_isAtOutline : zMB yX0_isAtOutline cX0_isAtOutline 4 (some .boolean) 1 := ⟨zat 55 (by decide +kernel) rfl, zat 623 (by decide +kernel) rfl, by decide +kernel⟩
def rm_X0_outlineBits : Room := { frames := 4, cells := 0, slots := 0, locals := 102 }
abbrev K_X0_outlineBits := CT yX0_outlineBits cX0_outlineBits 3 (some .int) rm_X0_outlineBits
abbrev W_X0_outlineBits (Q : Option Value → zH → Prop) := WG RX0 cX0_outlineBits 3 (some .int) rm_X0_outlineBits 0 0 zX0 (zEm Q)
theorem b_X0_outlineBits : zMB yX0_outlineBits cX0_outlineBits 3 (some .int) 0 := ⟨zat 55 (by decide +kernel) rfl, zat 611 (by decide +kernel) rfl, by decide +kernel⟩
def rm_X0_hullSum : Room := { frames := 5, cells := 0, slots := 0, locals := 124 }
abbrev K_X0_hullSum := CT yX0_hullSum cX0_hullSum 7 (some .long) rm_X0_hullSum
abbrev W_X0_hullSum (Q : Option Value → zH → Prop) := WG RX0 cX0_hullSum 7 (some .long) rm_X0_hullSum 0 0 zX0 (zEm Q)
theorem b_X0_hullSum : zMB yX0_hullSum cX0_hullSum 7 (some .long) 0 := ⟨zat 55 (by decide +kernel) rfl, zat 641 (by decide +kernel) rfl, by decide +kernel⟩
def rm_X0_parcelSum : Room := { frames := 1, cells := 0, slots := 0, locals := 23 }
abbrev K_X0_parcelSum := CT yX0_parcelSum cX0_parcelSum 6 (some .long) rm_X0_parcelSum
abbrev W_X0_parcelSum (Q : Option Value → zH → Prop) := WG RX0 cX0_parcelSum 6 (some .long) rm_X0_parcelSum 0 0 zX0 (zEm Q)
theorem b_X0_parcelSum : zMB yX0_parcelSum cX0_parcelSum 6 (some .long) 2 := ⟨zat 55 (by decide +kernel) rfl, zat 690 (by decide +kernel) rfl, by decide +kernel⟩
def rm_X0_triangleReaching : Room := { frames := 2, cells := 0, slots := 0, locals := 48 }
abbrev K_X0_triangleReaching := CT yX0_triangleReaching cX0_triangleReaching 8 (some .int) rm_X0_triangleReaching
abbrev W_X0_triangleReaching (Q : Option Value → zH → Prop) := WG RX0 cX0_triangleReaching 8 (some .int) rm_X0_triangleReaching 0 0 zX0 (zEm Q)
theorem b_X0_triangleReaching : zMB yX0_triangleReaching cX0_triangleReaching 8 (some .int) 2 := ⟨zat 55 (by decide +kernel) rfl, zat 699 (by decide +kernel) rfl, by decide +kernel⟩
def rm_X0_toldNumber : Room := { frames := 0, cells := 0, slots := 0, locals := 0 }
abbrev K_X0_toldNumber := CT yX0_toldNumber cX0_toldNumber 2 (some .long) rm_X0_toldNumber
abbrev W_X0_toldNumber (Q : Option Value → zH → Prop) := WG RX0 cX0_toldNumber 2 (some .long) rm_X0_toldNumber 0 0 zX0 (zEm Q)
theorem b_X0_toldNumber : zMB yX0_toldNumber cX0_toldNumber 2 (some .long) 1 := ⟨zat 55 (by decide +kernel) rfl, zat 781 (by decide +kernel) rfl, by decide +kernel⟩
def rm_X1_keep : Room := { frames := 1, cells := 0, slots := 0, locals := 30 }
abbrev K_X1_keep := CT yX1_keep cX1_keep 2 none rm_X1_keep
abbrev W_X1_keep (Q : Option Value → zH → Prop) := WG RX1 cX1_keep 2 none rm_X1_keep 0 0 zX0 (zEm Q)
theorem b_X1_keep : zMB yX1_keep cX1_keep 2 none 1 := ⟨zat 54 (by decide +kernel) rfl, zat 408 (by decide +kernel) rfl, by decide +kernel⟩
def rm_X1_bringBack : Room := { frames := 1, cells := 0, slots := 0, locals := 22 }
abbrev K_X1_bringBack := CT yX1_bringBack cX1_bringBack 2 (some .int) rm_X1_bringBack
abbrev W_X1_bringBack (Q : Option Value → zH → Prop) := WG RX1 cX1_bringBack 2 (some .int) rm_X1_bringBack 0 0 zX0 (zEm Q)
theorem b_X1_bringBack : zMB yX1_bringBack cX1_bringBack 2 (some .int) 1 := ⟨zat 54 (by decide +kernel) rfl, zat 793 (by decide +kernel) rfl, by decide +kernel⟩
def rm_X2_read : Room := { frames := 6, cells := 0, slots := 0, locals := 183 }
abbrev K_X2_read := CT yX2_read cX2_read 8 (some .int) rm_X2_read
abbrev W_X2_read (Q : Option Value → zH → Prop) := WG RX2 cX2_read 8 (some .int) rm_X2_read 0 0 zX0 (zEm Q)
theorem b_X2_read : zMB yX2_read cX2_read 8 (some .int) 3 := ⟨zat 56 (by decide +kernel) rfl, zat 266 (by decide +kernel) rfl, by decide +kernel⟩
def rm_X2_isBetweenStatements : Room := { frames := 3, cells := 0, slots := 0, locals := 80 }
abbrev K_X2_isBetweenStatements := CT yX2_isBetweenStatements cX2_isBetweenStatements 1 (some .boolean) rm_X2_isBetweenStatements
abbrev W_X2_isBetweenStatements (Q : Option Value → zH → Prop) := WG RX2 cX2_isBetweenStatements 1 (some .boolean) rm_X2_isBetweenStatements 0 0 zX0 (zEm Q)
theorem b_X2_isBetweenStatements : zMB yX2_isBetweenStatements cX2_isBetweenStatements 1 (some .boolean) 0 := ⟨zat 56 (by decide +kernel) rfl, zat 270 (by decide +kernel) rfl, by decide +kernel⟩
def rm_X2_takes : Room := { frames := 5, cells := 0, slots := 0, locals := 161 }
abbrev K_X2_takes := CT yX2_takes cX2_takes 3 (some .boolean) rm_X2_takes
abbrev W_X2_takes (Q : Option Value → zH → Prop) := WG RX2 cX2_takes 3 (some .boolean) rm_X2_takes 0 0 zX0 (zEm Q)
theorem b_X2_takes : zMB yX2_takes cX2_takes 3 (some .boolean) 1 := ⟨zat 56 (by decide +kernel) rfl, zat 284 (by decide +kernel) rfl, by decide +kernel⟩
def rm_X2_begins : Room := { frames := 2, cells := 0, slots := 0, locals := 60 }
abbrev K_X2_begins := CT yX2_begins cX2_begins 2 (some .boolean) rm_X2_begins
abbrev W_X2_begins (Q : Option Value → zH → Prop) := WG RX2 cX2_begins 2 (some .boolean) rm_X2_begins 0 0 zX0 (zEm Q)
theorem b_X2_begins : zMB yX2_begins cX2_begins 2 (some .boolean) 1 := ⟨zat 56 (by decide +kernel) rfl, zat 288 (by decide +kernel) rfl, by decide +kernel⟩
def rm_X2_takesDigit : Room := { frames := 0, cells := 0, slots := 0, locals := 0 }
abbrev K_X2_takesDigit := CT yX2_takesDigit cX2_takesDigit 3 (some .boolean) rm_X2_takesDigit
abbrev W_X2_takesDigit (Q : Option Value → zH → Prop) := WG RX2 cX2_takesDigit 3 (some .boolean) rm_X2_takesDigit 0 0 zX0 (zEm Q)
theorem b_X2_takesDigit : zMB yX2_takesDigit cX2_takesDigit 3 (some .boolean) 1 := ⟨zat 56 (by decide +kernel) rfl, zat 342 (by decide +kernel) rfl, by decide +kernel⟩
def rm_X2_formOf : Room := { frames := 0, cells := 0, slots := 0, locals := 0 }
abbrev K_X2_formOf := CT yX2_formOf cX2_formOf 1 (some (.object "java/lang/String")) rm_X2_formOf
abbrev W_X2_formOf (Q : Option Value → zH → Prop) := WG RX2 cX2_formOf 1 (some (.object "java/lang/String")) rm_X2_formOf 0 0 zX0 (zEm Q)
theorem b_X2_formOf : zMB yX2_formOf cX2_formOf 1 (some (.object "java/lang/String")) 1 := ⟨zat 56 (by decide +kernel) rfl, zat 291 (by decide +kernel) rfl, by decide +kernel⟩
def rm_X2_comesTo : Room := { frames := 3, cells := 0, slots := 0, locals := 70 }
abbrev K_X2_comesTo := CT yX2_comesTo cX2_comesTo 2 (some .boolean) rm_X2_comesTo
abbrev W_X2_comesTo (Q : Option Value → zH → Prop) := WG RX2 cX2_comesTo 2 (some .boolean) rm_X2_comesTo 0 0 zX0 (zEm Q)
theorem b_X2_comesTo : zMB yX2_comesTo cX2_comesTo 2 (some .boolean) 1 := ⟨zat 56 (by decide +kernel) rfl, zat 346 (by decide +kernel) rfl, by decide +kernel⟩
def rm_X2_addsTo : Room := { frames := 2, cells := 0, slots := 0, locals := 47 }
abbrev K_X2_addsTo := CT yX2_addsTo cX2_addsTo 2 (some .boolean) rm_X2_addsTo
abbrev W_X2_addsTo (Q : Option Value → zH → Prop) := WG RX2 cX2_addsTo 2 (some .boolean) rm_X2_addsTo 0 0 zX0 (zEm Q)
theorem b_X2_addsTo : zMB yX2_addsTo cX2_addsTo 2 (some .boolean) 1 := ⟨zat 56 (by decide +kernel) rfl, zat 350 (by decide +kernel) rfl, by decide +kernel⟩
def rm_X2_insertsInto : Room := { frames := 2, cells := 0, slots := 0, locals := 47 }
abbrev K_X2_insertsInto := CT yX2_insertsInto cX2_insertsInto 2 (some .boolean) rm_X2_insertsInto
abbrev W_X2_insertsInto (Q : Option Value → zH → Prop) := WG RX2 cX2_insertsInto 2 (some .boolean) rm_X2_insertsInto 0 0 zX0 (zEm Q)
theorem b_X2_insertsInto : zMB yX2_insertsInto cX2_insertsInto 2 (some .boolean) 1 := ⟨zat 56 (by decide +kernel) rfl, zat 366 (by decide +kernel) rfl, by decide +kernel⟩
def rm_X2_changesKind : Room := { frames := 2, cells := 0, slots := 0, locals := 44 }
abbrev K_X2_changesKind := CT yX2_changesKind cX2_changesKind 2 (some .boolean) rm_X2_changesKind
abbrev W_X2_changesKind (Q : Option Value → zH → Prop) := WG RX2 cX2_changesKind 2 (some .boolean) rm_X2_changesKind 0 0 zX0 (zEm Q)
theorem b_X2_changesKind : zMB yX2_changesKind cX2_changesKind 2 (some .boolean) 1 := ⟨zat 56 (by decide +kernel) rfl, zat 379 (by decide +kernel) rfl, by decide +kernel⟩
def rm_X2_takesFrom : Room := { frames := 2, cells := 0, slots := 0, locals := 44 }
abbrev K_X2_takesFrom := CT yX2_takesFrom cX2_takesFrom 2 (some .boolean) rm_X2_takesFrom
abbrev W_X2_takesFrom (Q : Option Value → zH → Prop) := WG RX2 cX2_takesFrom 2 (some .boolean) rm_X2_takesFrom 0 0 zX0 (zEm Q)
theorem b_X2_takesFrom : zMB yX2_takesFrom cX2_takesFrom 2 (some .boolean) 1 := ⟨zat 56 (by decide +kernel) rfl, zat 391 (by decide +kernel) rfl, by decide +kernel⟩
def rm_X3_isMissing : Room := { frames := 0, cells := 0, slots := 0, locals := 0 }
abbrev K_X3_isMissing := CT yX3_isMissing cX3_isMissing 1 (some .boolean) rm_X3_isMissing
abbrev W_X3_isMissing (Q : Option Value → zH → Prop) := WG RX3 cX3_isMissing 1 (some .boolean) rm_X3_isMissing 0 0 zX0 (zEm Q)
theorem b_X3_isMissing : zMB yX3_isMissing cX3_isMissing 1 (some .boolean) 0 := ⟨zat 57 (by decide +kernel) rfl, zat 747 (by decide +kernel) rfl, by decide +kernel⟩
def rm_X3_has : Room := { frames := 0, cells := 0, slots := 0, locals := 0 }
abbrev K_X3_has := CT yX3_has cX3_has 2 (some .boolean) rm_X3_has
abbrev W_X3_has (Q : Option Value → zH → Prop) := WG RX3 cX3_has 2 (some .boolean) rm_X3_has 0 0 zX0 (zEm Q)
theorem b_X3_has : zMB yX3_has cX3_has 2 (some .boolean) 1 := ⟨zat 57 (by decide +kernel) rfl, zat 755 (by decide +kernel) rfl, by decide +kernel⟩
def rm_X3_hasAll : Room := { frames := 0, cells := 0, slots := 0, locals := 0 }
abbrev K_X3_hasAll := CT yX3_hasAll cX3_hasAll 3 (some .boolean) rm_X3_hasAll
abbrev W_X3_hasAll (Q : Option Value → zH → Prop) := WG RX3 cX3_hasAll 3 (some .boolean) rm_X3_hasAll 0 0 zX0 (zEm Q)
theorem b_X3_hasAll : zMB yX3_hasAll cX3_hasAll 3 (some .boolean) 2 := ⟨zat 57 (by decide +kernel) rfl, zat 770 (by decide +kernel) rfl, by decide +kernel⟩
def rm_X3_become : Room := { frames := 0, cells := 0, slots := 0, locals := 0 }
abbrev K_X3_become := CT yX3_become cX3_become 4 none rm_X3_become
abbrev W_X3_become (Q : Option Value → zH → Prop) := WG RX3 cX3_become 4 none rm_X3_become 0 0 zX0 (zEm Q)
theorem b_X3_become : zMB yX3_become cX3_become 4 none 2 := ⟨zat 57 (by decide +kernel) rfl, zat 739 (by decide +kernel) rfl, by decide +kernel⟩
def rm_X3_set : Room := { frames := 1, cells := 0, slots := 0, locals := 21 }
abbrev K_X3_set := CT yX3_set cX3_set 4 (some .boolean) rm_X3_set
abbrev W_X3_set (Q : Option Value → zH → Prop) := WG RX3 cX3_set 4 (some .boolean) rm_X3_set 0 0 zX0 (zEm Q)
theorem b_X3_set : zMB yX3_set cX3_set 4 (some .boolean) 2 := ⟨zat 57 (by decide +kernel) rfl, zat 751 (by decide +kernel) rfl, by decide +kernel⟩
def rm_X4_has : Room := { frames := 0, cells := 0, slots := 0, locals := 0 }
abbrev K_X4_has := CT yX4_has cX4_has 2 (some .boolean) rm_X4_has
abbrev W_X4_has (Q : Option Value → zH → Prop) := WG RX4 cX4_has 2 (some .boolean) rm_X4_has 0 0 zX0 (zEm Q)
theorem b_X4_has : zMB yX4_has cX4_has 2 (some .boolean) 1 := ⟨zat 53 (by decide +kernel) rfl, zat 374 (by decide +kernel) rfl, by decide +kernel⟩
def rm_X4_all : Room := { frames := 0, cells := 0, slots := 0, locals := 0 }
abbrev K_X4_all := CT yX4_all cX4_all 1 (some .int) rm_X4_all
abbrev W_X4_all (Q : Option Value → zH → Prop) := WG RX4 cX4_all 1 (some .int) rm_X4_all 0 0 zX0 (zEm Q)
theorem b_X4_all : zMB yX4_all cX4_all 1 (some .int) 0 := ⟨zat 53 (by decide +kernel) rfl, zat 493 (by decide +kernel) rfl, by decide +kernel⟩
def rm_X4_allBut : Room := { frames := 1, cells := 0, slots := 0, locals := 20 }
abbrev K_X4_allBut := CT yX4_allBut cX4_allBut 2 (some .int) rm_X4_allBut
abbrev W_X4_allBut (Q : Option Value → zH → Prop) := WG RX4 cX4_allBut 2 (some .int) rm_X4_allBut 0 0 zX0 (zEm Q)
theorem b_X4_allBut : zMB yX4_allBut cX4_allBut 2 (some .int) 1 := ⟨zat 53 (by decide +kernel) rfl, zat 650 (by decide +kernel) rfl, by decide +kernel⟩
def rm_X4_become : Room := { frames := 0, cells := 0, slots := 0, locals := 0 }
abbrev K_X4_become := CT yX4_become cX4_become 3 none rm_X4_become
abbrev W_X4_become (Q : Option Value → zH → Prop) := WG RX4 cX4_become 3 none rm_X4_become 0 0 zX0 (zEm Q)
theorem b_X4_become : zMB yX4_become cX4_become 3 none 1 := ⟨zat 53 (by decide +kernel) rfl, zat 262 (by decide +kernel) rfl, by decide +kernel⟩
def rm_X4_refusalOfMore : Room := { frames := 0, cells := 0, slots := 0, locals := 0 }
abbrev K_X4_refusalOfMore := CT yX4_refusalOfMore cX4_refusalOfMore 4 (some .int) rm_X4_refusalOfMore
abbrev W_X4_refusalOfMore (Q : Option Value → zH → Prop) := WG RX4 cX4_refusalOfMore 4 (some .int) rm_X4_refusalOfMore 0 0 zX0 (zEm Q)
theorem b_X4_refusalOfMore : zMB yX4_refusalOfMore cX4_refusalOfMore 4 (some .int) 3 := ⟨zat 53 (by decide +kernel) rfl, zat 354 (by decide +kernel) rfl, by decide +kernel⟩
def rm_X4_refusalOfAhead : Room := { frames := 1, cells := 0, slots := 0, locals := 23 }
abbrev K_X4_refusalOfAhead := CT yX4_refusalOfAhead cX4_refusalOfAhead 5 (some .int) rm_X4_refusalOfAhead
abbrev W_X4_refusalOfAhead (Q : Option Value → zH → Prop) := WG RX4 cX4_refusalOfAhead 5 (some .int) rm_X4_refusalOfAhead 0 0 zX0 (zEm Q)
theorem b_X4_refusalOfAhead : zMB yX4_refusalOfAhead cX4_refusalOfAhead 5 (some .int) 4 := ⟨zat 53 (by decide +kernel) rfl, zat 370 (by decide +kernel) rfl, by decide +kernel⟩
def rm_X4_refusalOfKind : Room := { frames := 1, cells := 0, slots := 0, locals := 21 }
abbrev K_X4_refusalOfKind := CT yX4_refusalOfKind cX4_refusalOfKind 4 (some .int) rm_X4_refusalOfKind
abbrev W_X4_refusalOfKind (Q : Option Value → zH → Prop) := WG RX4 cX4_refusalOfKind 4 (some .int) rm_X4_refusalOfKind 0 0 zX0 (zEm Q)
theorem b_X4_refusalOfKind : zMB yX4_refusalOfKind cX4_refusalOfKind 4 (some .int) 3 := ⟨zat 53 (by decide +kernel) rfl, zat 383 (by decide +kernel) rfl, by decide +kernel⟩
def rm_X4_open : Room := { frames := 1, cells := 0, slots := 0, locals := 22 }
abbrev K_X4_open := CT yX4_open cX4_open 6 (some .int) rm_X4_open
abbrev W_X4_open (Q : Option Value → zH → Prop) := WG RX4 cX4_open 6 (some .int) rm_X4_open 0 0 zX0 (zEm Q)
theorem b_X4_open : zMB yX4_open cX4_open 6 (some .int) 4 := ⟨zat 53 (by decide +kernel) rfl, zat 358 (by decide +kernel) rfl, by decide +kernel⟩
def rm_X4_become_ : Room := { frames := 0, cells := 0, slots := 0, locals := 0 }
abbrev K_X4_become_ := CT yX4_become_ cX4_become_ 5 (some .int) rm_X4_become_
abbrev W_X4_become_ (Q : Option Value → zH → Prop) := WG RX4 cX4_become_ 5 (some .int) rm_X4_become_ 0 0 zX0 (zEm Q)
theorem b_X4_become_ : zMB yX4_become_ cX4_become_ 5 (some .int) 3 := ⟨zat 53 (by decide +kernel) rfl, zat 387 (by decide +kernel) rfl, by decide +kernel⟩
def rm_X4_close : Room := { frames := 1, cells := 0, slots := 0, locals := 22 }
abbrev K_X4_close := CT yX4_close cX4_close 3 (some .int) rm_X4_close
abbrev W_X4_close (Q : Option Value → zH → Prop) := WG RX4 cX4_close 3 (some .int) rm_X4_close 0 0 zX0 (zEm Q)
theorem b_X4_close : zMB yX4_close cX4_close 3 (some .int) 1 := ⟨zat 53 (by decide +kernel) rfl, zat 396 (by decide +kernel) rfl, by decide +kernel⟩
def rm_X4_reverse : Room := { frames := 2, cells := 0, slots := 0, locals := 49 }
abbrev K_X4_reverse := CT yX4_reverse cX4_reverse 2 (some .int) rm_X4_reverse
abbrev W_X4_reverse (Q : Option Value → zH → Prop) := WG RX4 cX4_reverse 2 (some .int) rm_X4_reverse 0 0 zX0 (zEm Q)
theorem b_X4_reverse : zMB yX4_reverse cX4_reverse 2 (some .int) 0 := ⟨zat 53 (by decide +kernel) rfl, zat 400 (by decide +kernel) rfl, by decide +kernel⟩
def rm_X4_move : Room := { frames := 0, cells := 0, slots := 0, locals := 0 }
abbrev K_X4_move := CT yX4_move cX4_move 3 none rm_X4_move
abbrev W_X4_move (Q : Option Value → zH → Prop) := WG RX4 cX4_move 3 none rm_X4_move 0 0 zX0 (zEm Q)
theorem b_X4_move : zMB yX4_move cX4_move 3 none 2 := ⟨zat 53 (by decide +kernel) rfl, zat 362 (by decide +kernel) rfl, by decide +kernel⟩
def rm_X4_swap : Room := { frames := 1, cells := 0, slots := 0, locals := 22 }
abbrev K_X4_swap := CT yX4_swap cX4_swap 8 none rm_X4_swap
abbrev W_X4_swap (Q : Option Value → zH → Prop) := WG RX4 cX4_swap 8 none rm_X4_swap 0 0 zX0 (zEm Q)
theorem b_X4_swap : zMB yX4_swap cX4_swap 8 none 2 := ⟨zat 53 (by decide +kernel) rfl, zat 404 (by decide +kernel) rfl, by decide +kernel⟩
def rm_X4_drawTimes : Room := { frames := 0, cells := 0, slots := 0, locals := 0 }
abbrev K_X4_drawTimes := CT yX4_drawTimes cX4_drawTimes 4 (some .int) rm_X4_drawTimes
abbrev W_X4_drawTimes (Q : Option Value → zH → Prop) := WG RX4 cX4_drawTimes 4 (some .int) rm_X4_drawTimes 0 0 zX0 (zEm Q)
theorem b_X4_drawTimes : zMB yX4_drawTimes cX4_drawTimes 4 (some .int) 1 := ⟨zat 53 (by decide +kernel) rfl, zat 725 (by decide +kernel) rfl, by decide +kernel⟩
def rm_X4_stretch : Room := { frames := 0, cells := 0, slots := 0, locals := 0 }
abbrev K_X4_stretch := CT yX4_stretch cX4_stretch 2 (some .int) rm_X4_stretch
abbrev W_X4_stretch (Q : Option Value → zH → Prop) := WG RX4 cX4_stretch 2 (some .int) rm_X4_stretch 0 0 zX0 (zEm Q)
theorem b_X4_stretch : zMB yX4_stretch cX4_stretch 2 (some .int) 1 := ⟨zat 53 (by decide +kernel) rfl, zat 474 (by decide +kernel) rfl, by decide +kernel⟩
def rm_X4_onceEast : Room := { frames := 1, cells := 0, slots := 0, locals := 21 }
abbrev K_X4_onceEast := CT yX4_onceEast cX4_onceEast 2 (some .int) rm_X4_onceEast
abbrev W_X4_onceEast (Q : Option Value → zH → Prop) := WG RX4 cX4_onceEast 2 (some .int) rm_X4_onceEast 0 0 zX0 (zEm Q)
theorem b_X4_onceEast : zMB yX4_onceEast cX4_onceEast 2 (some .int) 1 := ⟨zat 53 (by decide +kernel) rfl, zat 470 (by decide +kernel) rfl, by decide +kernel⟩
def rm_X4_onceNorth : Room := { frames := 1, cells := 0, slots := 0, locals := 21 }
abbrev K_X4_onceNorth := CT yX4_onceNorth cX4_onceNorth 2 (some .int) rm_X4_onceNorth
abbrev W_X4_onceNorth (Q : Option Value → zH → Prop) := WG RX4 cX4_onceNorth 2 (some .int) rm_X4_onceNorth 0 0 zX0 (zEm Q)
theorem b_X4_onceNorth : zMB yX4_onceNorth cX4_onceNorth 2 (some .int) 1 := ⟨zat 53 (by decide +kernel) rfl, zat 482 (by decide +kernel) rfl, by decide +kernel⟩
def rm_X4_stepEast : Room := { frames := 2, cells := 0, slots := 0, locals := 42 }
abbrev K_X4_stepEast := CT yX4_stepEast cX4_stepEast 2 (some .int) rm_X4_stepEast
abbrev W_X4_stepEast (Q : Option Value → zH → Prop) := WG RX4 cX4_stepEast 2 (some .int) rm_X4_stepEast 0 0 zX0 (zEm Q)
theorem b_X4_stepEast : zMB yX4_stepEast cX4_stepEast 2 (some .int) 1 := ⟨zat 53 (by decide +kernel) rfl, zat 466 (by decide +kernel) rfl, by decide +kernel⟩
def rm_X4_stepNorth : Room := { frames := 2, cells := 0, slots := 0, locals := 42 }
abbrev K_X4_stepNorth := CT yX4_stepNorth cX4_stepNorth 2 (some .int) rm_X4_stepNorth
abbrev W_X4_stepNorth (Q : Option Value → zH → Prop) := WG RX4 cX4_stepNorth 2 (some .int) rm_X4_stepNorth 0 0 zX0 (zEm Q)
theorem b_X4_stepNorth : zMB yX4_stepNorth cX4_stepNorth 2 (some .int) 1 := ⟨zat 53 (by decide +kernel) rfl, zat 478 (by decide +kernel) rfl, by decide +kernel⟩
def rm_X4_weightOf : Room := { frames := 1, cells := 0, slots := 0, locals := 30 }
abbrev K_X4_weightOf := CT yX4_weightOf cX4_weightOf 5 (some .int) rm_X4_weightOf
abbrev W_X4_weightOf (Q : Option Value → zH → Prop) := WG RX4 cX4_weightOf 5 (some .int) rm_X4_weightOf 0 0 zX0 (zEm Q)
theorem b_X4_weightOf : zMB yX4_weightOf cX4_weightOf 5 (some .int) 4 := ⟨zat 53 (by decide +kernel) rfl, zat 456 (by decide +kernel) rfl, by decide +kernel⟩
def rm_X4_weight : Room := { frames := 2, cells := 0, slots := 0, locals := 54 }
abbrev K_X4_weight := CT yX4_weight cX4_weight 2 (some .int) rm_X4_weight
abbrev W_X4_weight (Q : Option Value → zH → Prop) := WG RX4 cX4_weight 2 (some .int) rm_X4_weight 0 0 zX0 (zEm Q)
theorem b_X4_weight : zMB yX4_weight cX4_weight 2 (some .int) 1 := ⟨zat 53 (by decide +kernel) rfl, zat 453 (by decide +kernel) rfl, by decide +kernel⟩
def rm_X4_weightOfAll : Room := { frames := 3, cells := 0, slots := 0, locals := 75 }
abbrev K_X4_weightOfAll := CT yX4_weightOfAll cX4_weightOfAll 3 (some .int) rm_X4_weightOfAll
abbrev W_X4_weightOfAll (Q : Option Value → zH → Prop) := WG RX4 cX4_weightOfAll 3 (some .int) rm_X4_weightOfAll 0 0 zX0 (zEm Q)
theorem b_X4_weightOfAll : zMB yX4_weightOfAll cX4_weightOfAll 3 (some .int) 0 := ⟨zat 53 (by decide +kernel) rfl, zat 515 (by decide +kernel) rfl, by decide +kernel⟩
def rm_X4_aheadByWeight : Room := { frames := 3, cells := 0, slots := 0, locals := 75 }
abbrev K_X4_aheadByWeight := CT yX4_aheadByWeight cX4_aheadByWeight 5 (some .int) rm_X4_aheadByWeight
abbrev W_X4_aheadByWeight (Q : Option Value → zH → Prop) := WG RX4 cX4_aheadByWeight 5 (some .int) rm_X4_aheadByWeight 0 0 zX0 (zEm Q)
theorem b_X4_aheadByWeight : zMB yX4_aheadByWeight cX4_aheadByWeight 5 (some .int) 1 := ⟨zat 53 (by decide +kernel) rfl, zat 675 (by decide +kernel) rfl, by decide +kernel⟩
def rm_X4_missEast : Room := { frames := 3, cells := 0, slots := 0, locals := 63 }
abbrev K_X4_missEast := CT yX4_missEast cX4_missEast 4 (some .int) rm_X4_missEast
abbrev W_X4_missEast (Q : Option Value → zH → Prop) := WG RX4 cX4_missEast 4 (some .int) rm_X4_missEast 0 0 zX0 (zEm Q)
theorem b_X4_missEast : zMB yX4_missEast cX4_missEast 4 (some .int) 1 := ⟨zat 53 (by decide +kernel) rfl, zat 497 (by decide +kernel) rfl, by decide +kernel⟩
def rm_X4_missNorth : Room := { frames := 3, cells := 0, slots := 0, locals := 63 }
abbrev K_X4_missNorth := CT yX4_missNorth cX4_missNorth 4 (some .int) rm_X4_missNorth
abbrev W_X4_missNorth (Q : Option Value → zH → Prop) := WG RX4 cX4_missNorth 4 (some .int) rm_X4_missNorth 0 0 zX0 (zEm Q)
theorem b_X4_missNorth : zMB yX4_missNorth cX4_missNorth 4 (some .int) 1 := ⟨zat 53 (by decide +kernel) rfl, zat 502 (by decide +kernel) rfl, by decide +kernel⟩
def rm_X4_missing : Room := { frames := 4, cells := 0, slots := 0, locals := 86 }
abbrev K_X4_missing := CT yX4_missing cX4_missing 2 (some .int) rm_X4_missing
abbrev W_X4_missing (Q : Option Value → zH → Prop) := WG RX4 cX4_missing 2 (some .int) rm_X4_missing 0 0 zX0 (zEm Q)
theorem b_X4_missing : zMB yX4_missing cX4_missing 2 (some .int) 1 := ⟨zat 53 (by decide +kernel) rfl, zat 665 (by decide +kernel) rfl, by decide +kernel⟩
def rm_J13_signum_95d88 : Room := { frames := 0, cells := 0, slots := 0, locals := 0 }
abbrev K_J13_signum_95d88 := CT yJ13_signum_95d88 cJ13_signum_95d88 2 (some .int) rm_J13_signum_95d88
abbrev W_J13_signum_95d88 (Q : Option Value → zH → Prop) := WG RJ13 cJ13_signum_95d88 2 (some .int) rm_J13_signum_95d88 0 0 zX0 (zEm Q)
theorem b_J13_signum_95d88 : zMB yJ13_signum_95d88 cJ13_signum_95d88 2 (some .int) 1 := ⟨zat 64 (by decide +kernel) rfl, zat 583 (by decide +kernel) rfl, by decide +kernel⟩
def rm_J6_bitCount_0f7a4 : Room := { frames := 0, cells := 0, slots := 0, locals := 0 }
abbrev K_J6_bitCount_0f7a4 := CT yJ6_bitCount_0f7a4 cJ6_bitCount_0f7a4 1 (some .int) rm_J6_bitCount_0f7a4
abbrev W_J6_bitCount_0f7a4 (Q : Option Value → zH → Prop) := WG RJ6 cJ6_bitCount_0f7a4 1 (some .int) rm_J6_bitCount_0f7a4 0 0 zX0 (zEm Q)
theorem b_J6_bitCount_0f7a4 : zMB yJ6_bitCount_0f7a4 cJ6_bitCount_0f7a4 1 (some .int) 1 := ⟨zat 65 (by decide +kernel) rfl, zat 630 (by decide +kernel) rfl, by decide +kernel⟩
theorem m_X5_71 : zMV RX5 71 yX5_refuse := ⟨zat 251 (by decide +kernel) rfl, zat 253 (by decide +kernel) rfl, zat 0 (by decide +kernel) rfl⟩
theorem m_X5_75 : zMV RX5 75 yX4_become := ⟨zat 259 (by decide +kernel) rfl, zat 260 (by decide +kernel) rfl, zat 261 (by decide +kernel) rfl⟩
theorem m_X5_79 : zMV RX5 79 yX2_read := ⟨zat 263 (by decide +kernel) rfl, zat 264 (by decide +kernel) rfl, zat 265 (by decide +kernel) rfl⟩
theorem m_X5_83 : zMV RX5 83 yX1_keep := ⟨zat 405 (by decide +kernel) rfl, zat 406 (by decide +kernel) rfl, zat 407 (by decide +kernel) rfl⟩
theorem m_X5_86 : zMV RX5 86 yX4_refusalOfMore := ⟨zat 417 (by decide +kernel) rfl, zat 352 (by decide +kernel) rfl, zat 353 (by decide +kernel) rfl⟩
theorem m_X5_93 : zMV RX5 93 yX4_open := ⟨zat 418 (by decide +kernel) rfl, zat 356 (by decide +kernel) rfl, zat 357 (by decide +kernel) rfl⟩
theorem m_X5_97 : zMV RX5 97 yX4_refusalOfAhead := ⟨zat 423 (by decide +kernel) rfl, zat 368 (by decide +kernel) rfl, zat 369 (by decide +kernel) rfl⟩
theorem m_X5_100 : zMV RX5 100 yX4_refusalOfKind := ⟨zat 428 (by decide +kernel) rfl, zat 381 (by decide +kernel) rfl, zat 382 (by decide +kernel) rfl⟩
theorem m_X5_103 : zMV RX5 103 yX4_become_ := ⟨zat 429 (by decide +kernel) rfl, zat 385 (by decide +kernel) rfl, zat 386 (by decide +kernel) rfl⟩
theorem m_X5_105 : zMV RX5 105 yX4_has := ⟨zat 434 (by decide +kernel) rfl, zat 372 (by decide +kernel) rfl, zat 373 (by decide +kernel) rfl⟩
theorem m_X5_109 : zMV RX5 109 yX4_close := ⟨zat 435 (by decide +kernel) rfl, zat 394 (by decide +kernel) rfl, zat 395 (by decide +kernel) rfl⟩
theorem m_X5_112 : zMV RX5 112 yX4_reverse := ⟨zat 440 (by decide +kernel) rfl, zat 398 (by decide +kernel) rfl, zat 399 (by decide +kernel) rfl⟩
theorem m_X5_116 : zMV RX5 116 yX5_refuseLong := ⟨zat 445 (by decide +kernel) rfl, zat 447 (by decide +kernel) rfl, zat 1 (by decide +kernel) rfl⟩
theorem m_X5_135 : zMV RX5 135 yX4_weight := ⟨zat 450 (by decide +kernel) rfl, zat 451 (by decide +kernel) rfl, zat 452 (by decide +kernel) rfl⟩
theorem m_X5_138 : zMV RX5 138 yX4_stepEast := ⟨zat 463 (by decide +kernel) rfl, zat 464 (by decide +kernel) rfl, zat 465 (by decide +kernel) rfl⟩
theorem m_X5_141 : zMV RX5 141 yX4_stepNorth := ⟨zat 475 (by decide +kernel) rfl, zat 476 (by decide +kernel) rfl, zat 477 (by decide +kernel) rfl⟩
theorem m_X5_144 : zMS RX5 144 yX5_isOneOfTwo := ⟨zat 487 (by decide +kernel) rfl, zat 488 (by decide +kernel) rfl⟩
theorem m_X5_147 : zMV RX5 147 yX4_all := ⟨zat 490 (by decide +kernel) rfl, zat 491 (by decide +kernel) rfl, zat 492 (by decide +kernel) rfl⟩
theorem m_X5_150 : zMV RX5 150 yX4_missEast := ⟨zat 494 (by decide +kernel) rfl, zat 495 (by decide +kernel) rfl, zat 496 (by decide +kernel) rfl⟩
theorem m_X5_153 : zMV RX5 153 yX4_missNorth := ⟨zat 499 (by decide +kernel) rfl, zat 500 (by decide +kernel) rfl, zat 501 (by decide +kernel) rfl⟩
theorem m_X5_156 : zMV RX5 156 yX0_settle := ⟨zat 508 (by decide +kernel) rfl, zat 509 (by decide +kernel) rfl, zat 510 (by decide +kernel) rfl⟩
theorem m_X5_171 : zMS RX5 171 yX5_fraction := ⟨zat 523 (by decide +kernel) rfl, zat 524 (by decide +kernel) rfl⟩
theorem m_X5_179 : zMV RX5 179 yX0_crossSum := ⟨zat 540 (by decide +kernel) rfl, zat 541 (by decide +kernel) rfl, zat 542 (by decide +kernel) rfl⟩
theorem m_X5_183 : zMV RX5 183 yX0_unit := ⟨zat 552 (by decide +kernel) rfl, zat 553 (by decide +kernel) rfl, zat 554 (by decide +kernel) rfl⟩
theorem m_X5_186 : zMV RX5 186 yX0_turnAt := ⟨zat 561 (by decide +kernel) rfl, zat 562 (by decide +kernel) rfl, zat 563 (by decide +kernel) rfl⟩
theorem m_X5_189 : zMV RX5 189 yX0_areNeighbours := ⟨zat 569 (by decide +kernel) rfl, zat 570 (by decide +kernel) rfl, zat 571 (by decide +kernel) rfl⟩
theorem m_X5_193 : zMV RX5 193 yX0_meet := ⟨zat 573 (by decide +kernel) rfl, zat 574 (by decide +kernel) rfl, zat 575 (by decide +kernel) rfl⟩
theorem m_X5_196 : zMV RX5 196 yX0_meetings := ⟨zat 598 (by decide +kernel) rfl, zat 599 (by decide +kernel) rfl, zat 600 (by decide +kernel) rfl⟩
theorem m_X5_199 : zMV RX5 199 yX0_outlineBits := ⟨zat 608 (by decide +kernel) rfl, zat 609 (by decide +kernel) rfl, zat 610 (by decide +kernel) rfl⟩
theorem m_X5_202 : zMS RX5 202 yJ6_bitCount_0f7a4 := ⟨zat 628 (by decide +kernel) rfl, zat 629 (by decide +kernel) rfl⟩
theorem m_X5_207 : zMV RX5 207 yX0_hullSum := ⟨zat 638 (by decide +kernel) rfl, zat 639 (by decide +kernel) rfl, zat 640 (by decide +kernel) rfl⟩
theorem m_X5_210 : zMV RX5 210 yX4_allBut := ⟨zat 647 (by decide +kernel) rfl, zat 648 (by decide +kernel) rfl, zat 649 (by decide +kernel) rfl⟩
theorem m_X5_213 : zMV RX5 213 yX4_onceEast := ⟨zat 656 (by decide +kernel) rfl, zat 468 (by decide +kernel) rfl, zat 469 (by decide +kernel) rfl⟩
theorem m_X5_216 : zMV RX5 216 yX4_onceNorth := ⟨zat 657 (by decide +kernel) rfl, zat 480 (by decide +kernel) rfl, zat 481 (by decide +kernel) rfl⟩
theorem m_X5_219 : zMV RX5 219 yX4_missing := ⟨zat 662 (by decide +kernel) rfl, zat 663 (by decide +kernel) rfl, zat 664 (by decide +kernel) rfl⟩
theorem m_X5_222 : zMV RX5 222 yX4_aheadByWeight := ⟨zat 672 (by decide +kernel) rfl, zat 673 (by decide +kernel) rfl, zat 674 (by decide +kernel) rfl⟩
theorem m_X5_225 : zMS RX5 225 yX5_power := ⟨zat 680 (by decide +kernel) rfl, zat 681 (by decide +kernel) rfl⟩
theorem m_X5_229 : zMV RX5 229 yX0_parcelSum := ⟨zat 687 (by decide +kernel) rfl, zat 688 (by decide +kernel) rfl, zat 689 (by decide +kernel) rfl⟩
theorem m_X5_235 : zMV RX5 235 yX0_triangleReaching := ⟨zat 696 (by decide +kernel) rfl, zat 697 (by decide +kernel) rfl, zat 698 (by decide +kernel) rfl⟩
theorem m_X5_239 : zMV RX5 239 yX5_fitsRow := ⟨zat 705 (by decide +kernel) rfl, zat 707 (by decide +kernel) rfl, zat 2 (by decide +kernel) rfl⟩
theorem m_X5_242 : zMV RX5 242 yX4_drawTimes := ⟨zat 722 (by decide +kernel) rfl, zat 723 (by decide +kernel) rfl, zat 724 (by decide +kernel) rfl⟩
theorem m_X5_245 : zMS RX5 245 yX5_isList := ⟨zat 733 (by decide +kernel) rfl, zat 734 (by decide +kernel) rfl⟩
theorem m_X5_248 : zMV RX5 248 yX3_become := ⟨zat 736 (by decide +kernel) rfl, zat 737 (by decide +kernel) rfl, zat 738 (by decide +kernel) rfl⟩
theorem m_X5_251 : zMV RX5 251 yX3_isMissing := ⟨zat 744 (by decide +kernel) rfl, zat 745 (by decide +kernel) rfl, zat 746 (by decide +kernel) rfl⟩
theorem m_X5_255 : zMV RX5 255 yX3_set := ⟨zat 748 (by decide +kernel) rfl, zat 749 (by decide +kernel) rfl, zat 750 (by decide +kernel) rfl⟩
theorem m_X5_261 : zMV RX5 261 yX3_has := ⟨zat 761 (by decide +kernel) rfl, zat 753 (by decide +kernel) rfl, zat 754 (by decide +kernel) rfl⟩
theorem m_X5_270 : zMV RX5 270 yX3_hasAll := ⟨zat 767 (by decide +kernel) rfl, zat 768 (by decide +kernel) rfl, zat 769 (by decide +kernel) rfl⟩
theorem m_X5_280 : zMV RX5 280 yX0_toldNumber := ⟨zat 778 (by decide +kernel) rfl, zat 779 (by decide +kernel) rfl, zat 780 (by decide +kernel) rfl⟩
theorem m_X5_284 : zMV RX5 284 yX1_bringBack := ⟨zat 790 (by decide +kernel) rfl, zat 791 (by decide +kernel) rfl, zat 792 (by decide +kernel) rfl⟩
theorem m_X5_288 : zMV RX5 288 yX4_weightOfAll := ⟨zat 806 (by decide +kernel) rfl, zat 513 (by decide +kernel) rfl, zat 514 (by decide +kernel) rfl⟩
theorem m_X5_293 : zMS RX5 293 yX4_weightOf := ⟨zat 709 (by decide +kernel) rfl, zat 455 (by decide +kernel) rfl⟩
theorem m_X5_296 : zMS RX5 296 yX5_commonDivisor := ⟨zat 526 (by decide +kernel) rfl, zat 527 (by decide +kernel) rfl⟩
theorem m_X5_300 : Cond.methodLink RX5 300 Lib.MathLoose.abs_long.x ∈ ztb := zat 529 (by decide +kernel) rfl
theorem m_X0_35 : zMV RX0 35 yX4_weightOfAll := ⟨zat 512 (by decide +kernel) rfl, zat 513 (by decide +kernel) rfl, zat 514 (by decide +kernel) rfl⟩
theorem m_X0_39 : zMV RX0 39 yX4_all := ⟨zat 517 (by decide +kernel) rfl, zat 491 (by decide +kernel) rfl, zat 492 (by decide +kernel) rfl⟩
theorem m_X0_42 : zMV RX0 42 yX4_missEast := ⟨zat 518 (by decide +kernel) rfl, zat 495 (by decide +kernel) rfl, zat 496 (by decide +kernel) rfl⟩
theorem m_X0_46 : zMV RX0 46 yX4_missNorth := ⟨zat 519 (by decide +kernel) rfl, zat 500 (by decide +kernel) rfl, zat 501 (by decide +kernel) rfl⟩
theorem m_X0_49 : zMV RX0 49 yX4_stepEast := ⟨zat 520 (by decide +kernel) rfl, zat 464 (by decide +kernel) rfl, zat 465 (by decide +kernel) rfl⟩
theorem m_X0_52 : zMV RX0 52 yX4_weight := ⟨zat 521 (by decide +kernel) rfl, zat 451 (by decide +kernel) rfl, zat 452 (by decide +kernel) rfl⟩
theorem m_X0_55 : zMV RX0 55 yX4_stepNorth := ⟨zat 522 (by decide +kernel) rfl, zat 476 (by decide +kernel) rfl, zat 477 (by decide +kernel) rfl⟩
theorem m_X0_60 : zMV RX0 60 yX0_round := ⟨zat 544 (by decide +kernel) rfl, zat 545 (by decide +kernel) rfl, zat 546 (by decide +kernel) rfl⟩
theorem m_X0_63 : zMV RX0 63 yX0_crossProduct := ⟨zat 548 (by decide +kernel) rfl, zat 549 (by decide +kernel) rfl, zat 550 (by decide +kernel) rfl⟩
theorem m_X0_67 : zMV RX0 67 yX0_leftness := ⟨zat 577 (by decide +kernel) rfl, zat 578 (by decide +kernel) rfl, zat 579 (by decide +kernel) rfl⟩
theorem m_X0_71 : zMS RX0 71 yJ13_signum_95d88 := ⟨zat 581 (by decide +kernel) rfl, zat 582 (by decide +kernel) rfl⟩
theorem m_X0_77 : zMV RX0 77 yX0_isBetween := ⟨zat 584 (by decide +kernel) rfl, zat 585 (by decide +kernel) rfl, zat 586 (by decide +kernel) rfl⟩
theorem m_X0_81 : Cond.methodLink RX0 81 Lib.MathLoose.min_long.x ∈ ztb := zat 588 (by decide +kernel) rfl
theorem m_X0_87 : Cond.methodLink RX0 87 Lib.MathLoose.max_long.x ∈ ztb := zat 591 (by decide +kernel) rfl
theorem m_X0_90 : zMV RX0 90 yX0_areNeighbours := ⟨zat 602 (by decide +kernel) rfl, zat 570 (by decide +kernel) rfl, zat 571 (by decide +kernel) rfl⟩
theorem m_X0_94 : zMV RX0 94 yX0_meet := ⟨zat 603 (by decide +kernel) rfl, zat 574 (by decide +kernel) rfl, zat 575 (by decide +kernel) rfl⟩
theorem m_X0_97 : zMV RX0 97 yX0_areAtOnePoint := ⟨zat 616 (by decide +kernel) rfl, zat 617 (by decide +kernel) rfl, zat 618 (by decide +kernel) rfl⟩
theorem m_X0_100 : zMV RX0 100 yX0_isEdgeOfAll := ⟨zat 624 (by decide +kernel) rfl, zat 625 (by decide +kernel) rfl, zat 626 (by decide +kernel) rfl⟩
theorem m_X0_103 : zMV RX0 103 yX0_isFirstAtItsPoint := ⟨zat 612 (by decide +kernel) rfl, zat 613 (by decide +kernel) rfl, zat 614 (by decide +kernel) rfl⟩
theorem m_X0_107 : zMV RX0 107 yX0_isAtOutline := ⟨zat 620 (by decide +kernel) rfl, zat 621 (by decide +kernel) rfl, zat 622 (by decide +kernel) rfl⟩
theorem m_X0_110 : zMV RX0 110 yX0_outlineBits := ⟨zat 642 (by decide +kernel) rfl, zat 609 (by decide +kernel) rfl, zat 610 (by decide +kernel) rfl⟩
theorem m_X0_113 : zMV RX0 113 yX0_parcelSum := ⟨zat 700 (by decide +kernel) rfl, zat 688 (by decide +kernel) rfl, zat 689 (by decide +kernel) rfl⟩
theorem m_X1_25 : zMV RX1 25 yX4_become := ⟨zat 409 (by decide +kernel) rfl, zat 260 (by decide +kernel) rfl, zat 261 (by decide +kernel) rfl⟩
theorem m_X1_29 : Cond.methodLink RX1 29 Lib.Math.min.name ∈ ztb := zat 410 (by decide +kernel) rfl
theorem m_X2_35 : zMV RX2 35 yX2_isBetweenStatements := ⟨zat 267 (by decide +kernel) rfl, zat 268 (by decide +kernel) rfl, zat 269 (by decide +kernel) rfl⟩
theorem m_X2_39 : zMV RX2 39 yX2_takes := ⟨zat 281 (by decide +kernel) rfl, zat 282 (by decide +kernel) rfl, zat 283 (by decide +kernel) rfl⟩
theorem m_X2_43 : zMV RX2 43 yX2_comesTo := ⟨zat 343 (by decide +kernel) rfl, zat 344 (by decide +kernel) rfl, zat 345 (by decide +kernel) rfl⟩
theorem m_X2_53 : zMV RX2 53 yX2_begins := ⟨zat 285 (by decide +kernel) rfl, zat 286 (by decide +kernel) rfl, zat 287 (by decide +kernel) rfl⟩
theorem m_X2_60 : zMV RX2 60 yX2_takesDigit := ⟨zat 339 (by decide +kernel) rfl, zat 340 (by decide +kernel) rfl, zat 341 (by decide +kernel) rfl⟩
theorem m_X2_63 : zMS RX2 63 yX2_formOf := ⟨zat 289 (by decide +kernel) rfl, zat 290 (by decide +kernel) rfl⟩
theorem m_X2_80 : zMV RX2 80 yX2_addsTo := ⟨zat 347 (by decide +kernel) rfl, zat 348 (by decide +kernel) rfl, zat 349 (by decide +kernel) rfl⟩
theorem m_X2_83 : zMV RX2 83 yX2_insertsInto := ⟨zat 363 (by decide +kernel) rfl, zat 364 (by decide +kernel) rfl, zat 365 (by decide +kernel) rfl⟩
theorem m_X2_86 : zMV RX2 86 yX2_changesKind := ⟨zat 376 (by decide +kernel) rfl, zat 377 (by decide +kernel) rfl, zat 378 (by decide +kernel) rfl⟩
theorem m_X2_89 : zMV RX2 89 yX2_takesFrom := ⟨zat 388 (by decide +kernel) rfl, zat 389 (by decide +kernel) rfl, zat 390 (by decide +kernel) rfl⟩
theorem m_X2_92 : zMV RX2 92 yX4_reverse := ⟨zat 397 (by decide +kernel) rfl, zat 398 (by decide +kernel) rfl, zat 399 (by decide +kernel) rfl⟩
theorem m_X2_97 : zMV RX2 97 yX4_refusalOfMore := ⟨zat 351 (by decide +kernel) rfl, zat 352 (by decide +kernel) rfl, zat 353 (by decide +kernel) rfl⟩
theorem m_X2_104 : zMV RX2 104 yX4_open := ⟨zat 355 (by decide +kernel) rfl, zat 356 (by decide +kernel) rfl, zat 357 (by decide +kernel) rfl⟩
theorem m_X2_108 : zMV RX2 108 yX4_refusalOfAhead := ⟨zat 367 (by decide +kernel) rfl, zat 368 (by decide +kernel) rfl, zat 369 (by decide +kernel) rfl⟩
theorem m_X2_111 : zMV RX2 111 yX4_refusalOfKind := ⟨zat 380 (by decide +kernel) rfl, zat 381 (by decide +kernel) rfl, zat 382 (by decide +kernel) rfl⟩
theorem m_X2_114 : zMV RX2 114 yX4_become_ := ⟨zat 384 (by decide +kernel) rfl, zat 385 (by decide +kernel) rfl, zat 386 (by decide +kernel) rfl⟩
theorem m_X2_117 : zMV RX2 117 yX4_has := ⟨zat 392 (by decide +kernel) rfl, zat 372 (by decide +kernel) rfl, zat 373 (by decide +kernel) rfl⟩
theorem m_X2_120 : zMV RX2 120 yX4_close := ⟨zat 393 (by decide +kernel) rfl, zat 394 (by decide +kernel) rfl, zat 395 (by decide +kernel) rfl⟩
theorem m_X3_23 : zMV RX3 23 yX3_has := ⟨zat 752 (by decide +kernel) rfl, zat 753 (by decide +kernel) rfl, zat 754 (by decide +kernel) rfl⟩
theorem m_X4_31 : zMV RX4 31 yX4_all := ⟨zat 651 (by decide +kernel) rfl, zat 491 (by decide +kernel) rfl, zat 492 (by decide +kernel) rfl⟩
theorem m_X4_35 : zMV RX4 35 yX4_has := ⟨zat 371 (by decide +kernel) rfl, zat 372 (by decide +kernel) rfl, zat 373 (by decide +kernel) rfl⟩
theorem m_X4_39 : zMV RX4 39 yX4_refusalOfMore := ⟨zat 375 (by decide +kernel) rfl, zat 352 (by decide +kernel) rfl, zat 353 (by decide +kernel) rfl⟩
theorem m_X4_43 : zMV RX4 43 yX4_move := ⟨zat 359 (by decide +kernel) rfl, zat 360 (by decide +kernel) rfl, zat 361 (by decide +kernel) rfl⟩
theorem m_X4_47 : zMV RX4 47 yX4_swap := ⟨zat 401 (by decide +kernel) rfl, zat 402 (by decide +kernel) rfl, zat 403 (by decide +kernel) rfl⟩
theorem m_X4_53 : zMV RX4 53 yX4_stretch := ⟨zat 471 (by decide +kernel) rfl, zat 472 (by decide +kernel) rfl, zat 473 (by decide +kernel) rfl⟩
theorem m_X4_57 : zMV RX4 57 yX4_onceEast := ⟨zat 467 (by decide +kernel) rfl, zat 468 (by decide +kernel) rfl, zat 469 (by decide +kernel) rfl⟩
theorem m_X4_60 : zMV RX4 60 yX4_onceNorth := ⟨zat 479 (by decide +kernel) rfl, zat 480 (by decide +kernel) rfl, zat 481 (by decide +kernel) rfl⟩
theorem m_X4_63 : Cond.methodLink RX4 63 Lib.Math.abs.name ∈ ztb := zat 457 (by decide +kernel) rfl
theorem m_X4_68 : Cond.methodLink RX4 68 Lib.Math.max.name ∈ ztb := zat 460 (by decide +kernel) rfl
theorem m_X4_72 : zMS RX4 72 yX4_weightOf := ⟨zat 454 (by decide +kernel) rfl, zat 455 (by decide +kernel) rfl⟩
theorem m_X4_76 : zMV RX4 76 yX4_weight := ⟨zat 516 (by decide +kernel) rfl, zat 451 (by decide +kernel) rfl, zat 452 (by decide +kernel) rfl⟩
theorem m_X4_79 : zMV RX4 79 yX4_stepEast := ⟨zat 498 (by decide +kernel) rfl, zat 464 (by decide +kernel) rfl, zat 465 (by decide +kernel) rfl⟩
theorem m_X4_82 : zMV RX4 82 yX4_stepNorth := ⟨zat 503 (by decide +kernel) rfl, zat 476 (by decide +kernel) rfl, zat 477 (by decide +kernel) rfl⟩
theorem m_X4_85 : zMV RX4 85 yX4_missEast := ⟨zat 666 (by decide +kernel) rfl, zat 495 (by decide +kernel) rfl, zat 496 (by decide +kernel) rfl⟩
theorem m_X4_88 : zMV RX4 88 yX4_missNorth := ⟨zat 667 (by decide +kernel) rfl, zat 500 (by decide +kernel) rfl, zat 501 (by decide +kernel) rfl⟩
theorem m_L_13 : zMV RL 13 yX5_letter := ⟨zat 247 (by decide +kernel) rfl, zat 248 (by decide +kernel) rfl, zat 249 (by decide +kernel) rfl⟩
theorem m_L_17 : zMV RL 17 yX6_letter := ⟨zat 961 (by decide +kernel) rfl, zat 962 (by decide +kernel) rfl, zat 963 (by decide +kernel) rfl⟩
theorem m_L_18 : zMV RL 18 yX5_tells := ⟨zat 255 (by decide +kernel) rfl, zat 256 (by decide +kernel) rfl, zat 257 (by decide +kernel) rfl⟩
theorem m_L_22 : zMV RL 22 yX6_tells := ⟨zat 965 (by decide +kernel) rfl, zat 966 (by decide +kernel) rfl, zat 967 (by decide +kernel) rfl⟩
theorem m_L_23 : zMV RL 23 yX5_side := ⟨zat 413 (by decide +kernel) rfl, zat 414 (by decide +kernel) rfl, zat 415 (by decide +kernel) rfl⟩
theorem m_L_27 : zMV RL 27 yX6_side := ⟨zat 893 (by decide +kernel) rfl, zat 894 (by decide +kernel) rfl, zat 895 (by decide +kernel) rfl⟩
theorem m_L_28 : zMV RL 28 yX5_insert := ⟨zat 419 (by decide +kernel) rfl, zat 420 (by decide +kernel) rfl, zat 421 (by decide +kernel) rfl⟩
theorem m_L_32 : zMV RL 32 yX6_insert := ⟨zat 917 (by decide +kernel) rfl, zat 918 (by decide +kernel) rfl, zat 919 (by decide +kernel) rfl⟩
theorem m_L_33 : zMV RL 33 yX5_kind := ⟨zat 424 (by decide +kernel) rfl, zat 425 (by decide +kernel) rfl, zat 426 (by decide +kernel) rfl⟩
theorem m_L_36 : zMV RL 36 yX6_kind := ⟨zat 928 (by decide +kernel) rfl, zat 929 (by decide +kernel) rfl, zat 930 (by decide +kernel) rfl⟩
theorem m_L_37 : zMV RL 37 yX5_gone := ⟨zat 430 (by decide +kernel) rfl, zat 431 (by decide +kernel) rfl, zat 432 (by decide +kernel) rfl⟩
theorem m_L_40 : zMV RL 40 yX6_gone := ⟨zat 945 (by decide +kernel) rfl, zat 946 (by decide +kernel) rfl, zat 947 (by decide +kernel) rfl⟩
theorem m_L_41 : zMV RL 41 yX5_turned := ⟨zat 436 (by decide +kernel) rfl, zat 437 (by decide +kernel) rfl, zat 438 (by decide +kernel) rfl⟩
theorem m_L_44 : zMV RL 44 yX6_turned := ⟨zat 953 (by decide +kernel) rfl, zat 954 (by decide +kernel) rfl, zat 955 (by decide +kernel) rfl⟩
theorem m_L_45 : zMV RL 45 yX5_of := ⟨zat 441 (by decide +kernel) rfl, zat 442 (by decide +kernel) rfl, zat 443 (by decide +kernel) rfl⟩
theorem m_L_49 : zMV RL 49 yX6_of := ⟨zat 999 (by decide +kernel) rfl, zat 1000 (by decide +kernel) rfl, zat 1001 (by decide +kernel) rfl⟩
theorem m_L_50 : zMV RL 50 yX5_miss := ⟨zat 483 (by decide +kernel) rfl, zat 484 (by decide +kernel) rfl, zat 485 (by decide +kernel) rfl⟩
theorem m_L_54 : zMV RL 54 yX6_miss := ⟨zat 1030 (by decide +kernel) rfl, zat 1031 (by decide +kernel) rfl, zat 1032 (by decide +kernel) rfl⟩
theorem m_L_55 : zMV RL 55 yX5_spread := ⟨zat 504 (by decide +kernel) rfl, zat 505 (by decide +kernel) rfl, zat 506 (by decide +kernel) rfl⟩
theorem m_L_59 : zMV RL 59 yX6_spread := ⟨zat 1038 (by decide +kernel) rfl, zat 1039 (by decide +kernel) rfl, zat 1040 (by decide +kernel) rfl⟩
theorem m_L_60 : zMV RL 60 yX5_corner := ⟨zat 532 (by decide +kernel) rfl, zat 533 (by decide +kernel) rfl, zat 534 (by decide +kernel) rfl⟩
theorem m_L_63 : zMV RL 63 yX6_corner := ⟨zat 1060 (by decide +kernel) rfl, zat 1061 (by decide +kernel) rfl, zat 1062 (by decide +kernel) rfl⟩
theorem m_L_64 : zMV RL 64 yX5_area := ⟨zat 536 (by decide +kernel) rfl, zat 537 (by decide +kernel) rfl, zat 538 (by decide +kernel) rfl⟩
theorem m_L_67 : zMV RL 67 yX6_area := ⟨zat 1064 (by decide +kernel) rfl, zat 1065 (by decide +kernel) rfl, zat 1066 (by decide +kernel) rfl⟩
theorem m_L_68 : zMV RL 68 yX5_turn := ⟨zat 557 (by decide +kernel) rfl, zat 558 (by decide +kernel) rfl, zat 559 (by decide +kernel) rfl⟩
theorem m_L_71 : zMV RL 71 yX6_turn := ⟨zat 1085 (by decide +kernel) rfl, zat 1086 (by decide +kernel) rfl, zat 1087 (by decide +kernel) rfl⟩
theorem m_L_72 : zMV RL 72 yX5_cross := ⟨zat 565 (by decide +kernel) rfl, zat 566 (by decide +kernel) rfl, zat 567 (by decide +kernel) rfl⟩
theorem m_L_76 : zMV RL 76 yX6_cross_ := ⟨zat 1089 (by decide +kernel) rfl, zat 1090 (by decide +kernel) rfl, zat 1091 (by decide +kernel) rfl⟩
theorem m_L_77 : zMV RL 77 yX5_crosses := ⟨zat 594 (by decide +kernel) rfl, zat 595 (by decide +kernel) rfl, zat 596 (by decide +kernel) rfl⟩
theorem m_L_80 : zMV RL 80 yX6_crosses := ⟨zat 1121 (by decide +kernel) rfl, zat 1122 (by decide +kernel) rfl, zat 1123 (by decide +kernel) rfl⟩
theorem m_L_81 : zMV RL 81 yX5_outline := ⟨zat 604 (by decide +kernel) rfl, zat 605 (by decide +kernel) rfl, zat 606 (by decide +kernel) rfl⟩
theorem m_L_84 : zMV RL 84 yX6_outline := ⟨zat 1129 (by decide +kernel) rfl, zat 1130 (by decide +kernel) rfl, zat 1131 (by decide +kernel) rfl⟩
theorem m_L_85 : zMV RL 85 yX5_hull := ⟨zat 634 (by decide +kernel) rfl, zat 635 (by decide +kernel) rfl, zat 636 (by decide +kernel) rfl⟩
theorem m_L_88 : zMV RL 88 yX6_hull := ⟨zat 1156 (by decide +kernel) rfl, zat 1157 (by decide +kernel) rfl, zat 1158 (by decide +kernel) rfl⟩
theorem m_L_89 : zMV RL 89 yX5_lost := ⟨zat 643 (by decide +kernel) rfl, zat 644 (by decide +kernel) rfl, zat 645 (by decide +kernel) rfl⟩
theorem m_L_92 : zMV RL 92 yX6_lost := ⟨zat 1164 (by decide +kernel) rfl, zat 1165 (by decide +kernel) rfl, zat 1166 (by decide +kernel) rfl⟩
theorem m_L_93 : zMV RL 93 yX5_lengths := ⟨zat 652 (by decide +kernel) rfl, zat 653 (by decide +kernel) rfl, zat 654 (by decide +kernel) rfl⟩
theorem m_L_97 : zMV RL 97 yX6_lengths := ⟨zat 1168 (by decide +kernel) rfl, zat 1169 (by decide +kernel) rfl, zat 1170 (by decide +kernel) rfl⟩
theorem m_L_98 : zMV RL 98 yX5_worst := ⟨zat 658 (by decide +kernel) rfl, zat 659 (by decide +kernel) rfl, zat 660 (by decide +kernel) rfl⟩
theorem m_L_101 : zMV RL 101 yX6_worst := ⟨zat 1172 (by decide +kernel) rfl, zat 1173 (by decide +kernel) rfl, zat 1174 (by decide +kernel) rfl⟩
theorem m_L_102 : zMV RL 102 yX5_order := ⟨zat 668 (by decide +kernel) rfl, zat 669 (by decide +kernel) rfl, zat 670 (by decide +kernel) rfl⟩
theorem m_L_105 : zMV RL 105 yX6_order := ⟨zat 1180 (by decide +kernel) rfl, zat 1181 (by decide +kernel) rfl, zat 1182 (by decide +kernel) rfl⟩
theorem m_L_106 : zMV RL 106 yX5_likely := ⟨zat 676 (by decide +kernel) rfl, zat 677 (by decide +kernel) rfl, zat 678 (by decide +kernel) rfl⟩
theorem m_L_109 : zMV RL 109 yX6_likely := ⟨zat 1188 (by decide +kernel) rfl, zat 1189 (by decide +kernel) rfl, zat 1190 (by decide +kernel) rfl⟩
theorem m_L_110 : zMV RL 110 yX5_parcel := ⟨zat 683 (by decide +kernel) rfl, zat 684 (by decide +kernel) rfl, zat 685 (by decide +kernel) rfl⟩
theorem m_L_113 : zMV RL 113 yX6_parcel := ⟨zat 1192 (by decide +kernel) rfl, zat 1193 (by decide +kernel) rfl, zat 1194 (by decide +kernel) rfl⟩
theorem m_L_114 : zMV RL 114 yX5_cut := ⟨zat 691 (by decide +kernel) rfl, zat 692 (by decide +kernel) rfl, zat 693 (by decide +kernel) rfl⟩
theorem m_L_117 : zMV RL 117 yX6_cut := ⟨zat 1200 (by decide +kernel) rfl, zat 1201 (by decide +kernel) rfl, zat 1202 (by decide +kernel) rfl⟩
theorem m_L_118 : zMV RL 118 yX5_whatIs := ⟨zat 701 (by decide +kernel) rfl, zat 702 (by decide +kernel) rfl, zat 703 (by decide +kernel) rfl⟩
theorem m_L_121 : zMV RL 121 yX6_whatIs := ⟨zat 1214 (by decide +kernel) rfl, zat 1215 (by decide +kernel) rfl, zat 1216 (by decide +kernel) rfl⟩
theorem m_L_122 : zMV RL 122 yX5_row := ⟨zat 710 (by decide +kernel) rfl, zat 711 (by decide +kernel) rfl, zat 712 (by decide +kernel) rfl⟩
theorem m_L_125 : zMV RL 125 yX6_row := ⟨zat 1206 (by decide +kernel) rfl, zat 1207 (by decide +kernel) rfl, zat 1208 (by decide +kernel) rfl⟩
theorem m_L_126 : zMV RL 126 yX5_clear := ⟨zat 714 (by decide +kernel) rfl, zat 715 (by decide +kernel) rfl, zat 716 (by decide +kernel) rfl⟩
theorem m_L_129 : zMV RL 129 yX6_clear := ⟨zat 1210 (by decide +kernel) rfl, zat 1211 (by decide +kernel) rfl, zat 1212 (by decide +kernel) rfl⟩
theorem m_L_130 : zMV RL 130 yX5_lots := ⟨zat 718 (by decide +kernel) rfl, zat 719 (by decide +kernel) rfl, zat 720 (by decide +kernel) rfl⟩
theorem m_L_133 : zMV RL 133 yX6_lots := ⟨zat 1222 (by decide +kernel) rfl, zat 1223 (by decide +kernel) rfl, zat 1224 (by decide +kernel) rfl⟩
theorem m_L_134 : zMV RL 134 yX5_list := ⟨zat 729 (by decide +kernel) rfl, zat 730 (by decide +kernel) rfl, zat 731 (by decide +kernel) rfl⟩
theorem m_L_137 : zMV RL 137 yX6_list := ⟨zat 1233 (by decide +kernel) rfl, zat 1234 (by decide +kernel) rfl, zat 1235 (by decide +kernel) rfl⟩
theorem m_L_140 : zMV RL 140 yX5_put := ⟨zat 740 (by decide +kernel) rfl, zat 741 (by decide +kernel) rfl, zat 742 (by decide +kernel) rfl⟩
theorem m_L_144 : zMV RL 144 yX6_put := ⟨zat 1240 (by decide +kernel) rfl, zat 1241 (by decide +kernel) rfl, zat 1242 (by decide +kernel) rfl⟩
theorem m_L_145 : zMV RL 145 yX5_look := ⟨zat 756 (by decide +kernel) rfl, zat 757 (by decide +kernel) rfl, zat 758 (by decide +kernel) rfl⟩
theorem m_L_148 : zMV RL 148 yX6_look := ⟨zat 1248 (by decide +kernel) rfl, zat 1249 (by decide +kernel) rfl, zat 1250 (by decide +kernel) rfl⟩
theorem m_L_149 : zMV RL 149 yX5_copy := ⟨zat 763 (by decide +kernel) rfl, zat 764 (by decide +kernel) rfl, zat 765 (by decide +kernel) rfl⟩
theorem m_L_153 : zMV RL 153 yX6_copy := ⟨zat 1254 (by decide +kernel) rfl, zat 1255 (by decide +kernel) rfl, zat 1256 (by decide +kernel) rfl⟩
theorem m_L_154 : zMV RL 154 yX5_lays := ⟨zat 774 (by decide +kernel) rfl, zat 775 (by decide +kernel) rfl, zat 776 (by decide +kernel) rfl⟩
theorem m_L_157 : zMV RL 157 yX6_lays := ⟨zat 1258 (by decide +kernel) rfl, zat 1259 (by decide +kernel) rfl, zat 1260 (by decide +kernel) rfl⟩
theorem m_L_158 : zMV RL 158 yX5_judge := ⟨zat 782 (by decide +kernel) rfl, zat 783 (by decide +kernel) rfl, zat 784 (by decide +kernel) rfl⟩
theorem m_L_161 : zMV RL 161 yX6_judge := ⟨zat 1262 (by decide +kernel) rfl, zat 1263 (by decide +kernel) rfl, zat 1264 (by decide +kernel) rfl⟩
theorem m_L_162 : zMV RL 162 yX5_undo := ⟨zat 786 (by decide +kernel) rfl, zat 787 (by decide +kernel) rfl, zat 788 (by decide +kernel) rfl⟩
theorem m_L_165 : zMV RL 165 yX6_undo := ⟨zat 882 (by decide +kernel) rfl, zat 883 (by decide +kernel) rfl, zat 884 (by decide +kernel) rfl⟩
theorem m_L_166 : zMV RL 166 yX5_image := ⟨zat 794 (by decide +kernel) rfl, zat 795 (by decide +kernel) rfl, zat 796 (by decide +kernel) rfl⟩
theorem m_L_169 : zMV RL 169 yX6_image := ⟨zat 1266 (by decide +kernel) rfl, zat 1267 (by decide +kernel) rfl, zat 1268 (by decide +kernel) rfl⟩
theorem m_L_170 : zMV RL 170 yX5_on := ⟨zat 798 (by decide +kernel) rfl, zat 799 (by decide +kernel) rfl, zat 800 (by decide +kernel) rfl⟩
theorem m_L_173 : zMV RL 173 yX6_on := ⟨zat 1270 (by decide +kernel) rfl, zat 1271 (by decide +kernel) rfl, zat 1272 (by decide +kernel) rfl⟩
theorem m_L_174 : zMV RL 174 yX5_count := ⟨zat 802 (by decide +kernel) rfl, zat 803 (by decide +kernel) rfl, zat 804 (by decide +kernel) rfl⟩
theorem m_L_177 : zMV RL 177 yX6_count := ⟨zat 1274 (by decide +kernel) rfl, zat 1275 (by decide +kernel) rfl, zat 1276 (by decide +kernel) rfl⟩
theorem m_X6_13 : zMV RX6 13 yX6_no := ⟨zat 886 (by decide +kernel) rfl, zat 888 (by decide +kernel) rfl, zat 3 (by decide +kernel) rfl⟩
theorem m_X6_63 : zMV RX6 63 yX6_many := ⟨zat 901 (by decide +kernel) rfl, zat 903 (by decide +kernel) rfl, zat 5 (by decide +kernel) rfl⟩
theorem m_X6_67 : zMS RX6 67 yX6_in := ⟨zat 925 (by decide +kernel) rfl, zat 926 (by decide +kernel) rfl⟩
theorem m_X6_71 : zMS RX6 71 yX6_size := ⟨zat 1015 (by decide +kernel) rfl, zat 1016 (by decide +kernel) rfl⟩
theorem m_X6_74 : Cond.methodLink RX6 74 Lib.Math.max.name ∈ ztb := zat 1018 (by decide +kernel) rfl
theorem m_X6_80 : zMV RX6 80 yX6_at := ⟨zat 937 (by decide +kernel) rfl, zat 939 (by decide +kernel) rfl, zat 11 (by decide +kernel) rfl⟩
theorem m_X6_83 : zMS RX6 83 yX6_weightOf := ⟨zat 1012 (by decide +kernel) rfl, zat 1013 (by decide +kernel) rfl⟩
theorem m_X6_87 : zMS RX6 87 yX6_stretchOf := ⟨zat 1027 (by decide +kernel) rfl, zat 1028 (by decide +kernel) rfl⟩
theorem m_X6_90 : zMV RX6 90 yX6_unit := ⟨zat 1023 (by decide +kernel) rfl, zat 1025 (by decide +kernel) rfl, zat 25 (by decide +kernel) rfl⟩
theorem m_X6_93 : zMV RX6 93 yX6_step := ⟨zat 1019 (by decide +kernel) rfl, zat 1021 (by decide +kernel) rfl, zat 24 (by decide +kernel) rfl⟩
theorem m_X6_96 : zMV RX6 96 yX6_weight := ⟨zat 1008 (by decide +kernel) rfl, zat 1010 (by decide +kernel) rfl, zat 23 (by decide +kernel) rfl⟩
theorem m_X6_99 : zMS RX6 99 yX6_copies := ⟨zat 890 (by decide +kernel) rfl, zat 891 (by decide +kernel) rfl⟩
theorem m_X6_106 : zMV RX6 106 yX6_isSide := ⟨zat 921 (by decide +kernel) rfl, zat 923 (by decide +kernel) rfl, zat 9 (by decide +kernel) rfl⟩
theorem m_X6_112 : zMV RX6 112 yX6_wrongSide := ⟨zat 897 (by decide +kernel) rfl, zat 899 (by decide +kernel) rfl, zat 4 (by decide +kernel) rfl⟩
theorem m_X6_116 : zMV RX6 116 yX6_keepsAside := ⟨zat 905 (by decide +kernel) rfl, zat 907 (by decide +kernel) rfl, zat 6 (by decide +kernel) rfl⟩
theorem m_X6_119 : zMV RX6 119 yX6_changed := ⟨zat 909 (by decide +kernel) rfl, zat 911 (by decide +kernel) rfl, zat 7 (by decide +kernel) rfl⟩
theorem m_X6_122 : zMV RX6 122 yX6_insertAt := ⟨zat 913 (by decide +kernel) rfl, zat 915 (by decide +kernel) rfl, zat 8 (by decide +kernel) rfl⟩
theorem m_X6_126 : zMV RX6 126 yX6_wrongKind := ⟨zat 932 (by decide +kernel) rfl, zat 934 (by decide +kernel) rfl, zat 10 (by decide +kernel) rfl⟩
theorem m_X6_129 : zMV RX6 129 yX6_becomes := ⟨zat 941 (by decide +kernel) rfl, zat 943 (by decide +kernel) rfl, zat 12 (by decide +kernel) rfl⟩
theorem m_X6_133 : zMV RX6 133 yX6_goneAt := ⟨zat 949 (by decide +kernel) rfl, zat 951 (by decide +kernel) rfl, zat 13 (by decide +kernel) rfl⟩
theorem m_X6_137 : zMV RX6 137 yX6_turns := ⟨zat 957 (by decide +kernel) rfl, zat 959 (by decide +kernel) rfl, zat 14 (by decide +kernel) rfl⟩
theorem m_X6_150 : zMV RX6 150 yX6_here := ⟨zat 977 (by decide +kernel) rfl, zat 979 (by decide +kernel) rfl, zat 17 (by decide +kernel) rfl⟩
theorem m_X6_157 : zMV RX6 157 yX6_digit := ⟨zat 981 (by decide +kernel) rfl, zat 983 (by decide +kernel) rfl, zat 18 (by decide +kernel) rfl⟩
theorem m_X6_161 : zMV RX6 161 yX6_takes := ⟨zat 987 (by decide +kernel) rfl, zat 989 (by decide +kernel) rfl, zat 19 (by decide +kernel) rfl⟩
theorem m_X6_164 : zMV RX6 164 yX6_bearing := ⟨zat 991 (by decide +kernel) rfl, zat 993 (by decide +kernel) rfl, zat 20 (by decide +kernel) rfl⟩
theorem m_X6_167 : zMV RX6 167 yX6_statement := ⟨zat 973 (by decide +kernel) rfl, zat 975 (by decide +kernel) rfl, zat 16 (by decide +kernel) rfl⟩
theorem m_X6_170 : zMV RX6 170 yX6_isDone := ⟨zat 995 (by decide +kernel) rfl, zat 997 (by decide +kernel) rfl, zat 21 (by decide +kernel) rfl⟩
theorem m_X6_173 : zMV RX6 173 yX6_goesThrough := ⟨zat 969 (by decide +kernel) rfl, zat 971 (by decide +kernel) rfl, zat 15 (by decide +kernel) rfl⟩
theorem m_X6_177 : zMV RX6 177 yX6_far := ⟨zat 1003 (by decide +kernel) rfl, zat 1005 (by decide +kernel) rfl, zat 22 (by decide +kernel) rfl⟩
theorem m_X6_181 : zMV RX6 181 yX6_missOf := ⟨zat 1034 (by decide +kernel) rfl, zat 1036 (by decide +kernel) rfl, zat 26 (by decide +kernel) rfl⟩
theorem m_X6_184 : zMS RX6 184 yX6_common := ⟨zat 1056 (by decide +kernel) rfl, zat 1057 (by decide +kernel) rfl⟩
theorem m_X6_190 : zMV RX6 190 yX6_allWeights := ⟨zat 1049 (by decide +kernel) rfl, zat 1051 (by decide +kernel) rfl, zat 28 (by decide +kernel) rfl⟩
theorem m_X6_197 : zMS RX6 197 yX6_isPart := ⟨zat 1042 (by decide +kernel) rfl, zat 1043 (by decide +kernel) rfl⟩
theorem m_X6_200 : zMV RX6 200 yX6_spreadsAll := ⟨zat 1045 (by decide +kernel) rfl, zat 1047 (by decide +kernel) rfl, zat 27 (by decide +kernel) rfl⟩
theorem m_X6_204 : zMS RX6 204 yX6_lowest := ⟨zat 1053 (by decide +kernel) rfl, zat 1054 (by decide +kernel) rfl⟩
theorem m_X6_208 : zMV RX6 208 yX6_x := ⟨zat 1068 (by decide +kernel) rfl, zat 1070 (by decide +kernel) rfl, zat 29 (by decide +kernel) rfl⟩
theorem m_X6_211 : zMV RX6 211 yX6_y := ⟨zat 1076 (by decide +kernel) rfl, zat 1078 (by decide +kernel) rfl, zat 31 (by decide +kernel) rfl⟩
theorem m_X6_214 : zMV RX6 214 yX6_cross := ⟨zat 1109 (by decide +kernel) rfl, zat 1111 (by decide +kernel) rfl, zat 37 (by decide +kernel) rfl⟩
theorem m_X6_220 : zMV RX6 220 yX6_next := ⟨zat 1072 (by decide +kernel) rfl, zat 1074 (by decide +kernel) rfl, zat 30 (by decide +kernel) rfl⟩
theorem m_X6_223 : zMV RX6 223 yX6_areaOf := ⟨zat 1080 (by decide +kernel) rfl, zat 1082 (by decide +kernel) rfl, zat 32 (by decide +kernel) rfl⟩
theorem m_X6_227 : Cond.methodLink RX6 227 Lib.MathLoose.min_long.x ∈ ztb := zat 1116 (by decide +kernel) rfl
theorem m_X6_230 : Cond.methodLink RX6 230 Lib.MathLoose.max_long.x ∈ ztb := zat 1117 (by decide +kernel) rfl
theorem m_X6_232 : zMV RX6 232 yX6_three := ⟨zat 1105 (by decide +kernel) rfl, zat 1107 (by decide +kernel) rfl, zat 36 (by decide +kernel) rfl⟩
theorem m_X6_236 : zMS RX6 236 yX6_isBetween := ⟨zat 1113 (by decide +kernel) rfl, zat 1114 (by decide +kernel) rfl⟩
theorem m_X6_239 : zMV RX6 239 yX6_isOn := ⟨zat 1101 (by decide +kernel) rfl, zat 1103 (by decide +kernel) rfl, zat 35 (by decide +kernel) rfl⟩
theorem m_X6_243 : zMS RX6 243 yX6_sign := ⟨zat 1118 (by decide +kernel) rfl, zat 1119 (by decide +kernel) rfl⟩
theorem m_X6_247 : zMV RX6 247 yX6_areNeighbours := ⟨zat 1093 (by decide +kernel) rfl, zat 1095 (by decide +kernel) rfl, zat 33 (by decide +kernel) rfl⟩
theorem m_X6_251 : zMV RX6 251 yX6_doCross := ⟨zat 1097 (by decide +kernel) rfl, zat 1099 (by decide +kernel) rfl, zat 34 (by decide +kernel) rfl⟩
theorem m_X6_254 : zMV RX6 254 yX6_crossings := ⟨zat 1125 (by decide +kernel) rfl, zat 1127 (by decide +kernel) rfl, zat 38 (by decide +kernel) rfl⟩
theorem m_X6_257 : zMV RX6 257 yX6_isSamePoint := ⟨zat 1141 (by decide +kernel) rfl, zat 1143 (by decide +kernel) rfl, zat 41 (by decide +kernel) rfl⟩
theorem m_X6_260 : zMV RX6 260 yX6_isWithin := ⟨zat 1149 (by decide +kernel) rfl, zat 1151 (by decide +kernel) rfl, zat 43 (by decide +kernel) rfl⟩
theorem m_X6_264 : zMV RX6 264 yX6_isFirstThere := ⟨zat 1137 (by decide +kernel) rfl, zat 1139 (by decide +kernel) rfl, zat 40 (by decide +kernel) rfl⟩
theorem m_X6_267 : zMV RX6 267 yX6_isCovered := ⟨zat 1145 (by decide +kernel) rfl, zat 1147 (by decide +kernel) rfl, zat 42 (by decide +kernel) rfl⟩
theorem m_X6_270 : zMV RX6 270 yX6_outlineBits := ⟨zat 1133 (by decide +kernel) rfl, zat 1135 (by decide +kernel) rfl, zat 39 (by decide +kernel) rfl⟩
theorem m_X6_273 : zMS RX6 273 yX6_bits := ⟨zat 1153 (by decide +kernel) rfl, zat 1154 (by decide +kernel) rfl⟩
theorem m_X6_276 : zMV RX6 276 yX6_nextRound := ⟨zat 1160 (by decide +kernel) rfl, zat 1162 (by decide +kernel) rfl, zat 44 (by decide +kernel) rfl⟩
theorem m_X6_279 : zMV RX6 279 yX6_missWithout := ⟨zat 1176 (by decide +kernel) rfl, zat 1178 (by decide +kernel) rfl, zat 45 (by decide +kernel) rfl⟩
theorem m_X6_282 : zMV RX6 282 yX6_ahead := ⟨zat 1184 (by decide +kernel) rfl, zat 1186 (by decide +kernel) rfl, zat 46 (by decide +kernel) rfl⟩
theorem m_X6_285 : zMV RX6 285 yX6_parcelOf := ⟨zat 1196 (by decide +kernel) rfl, zat 1198 (by decide +kernel) rfl, zat 47 (by decide +kernel) rfl⟩
theorem m_X6_296 : zMV RX6 296 yX6_isRow := ⟨zat 1218 (by decide +kernel) rfl, zat 1220 (by decide +kernel) rfl, zat 48 (by decide +kernel) rfl⟩
theorem m_X6_305 : zMV RX6 305 yX6_draw := ⟨zat 1226 (by decide +kernel) rfl, zat 1228 (by decide +kernel) rfl, zat 49 (by decide +kernel) rfl⟩
theorem m_X6_308 : zMS RX6 308 yX6_isList := ⟨zat 1237 (by decide +kernel) rfl, zat 1238 (by decide +kernel) rfl⟩
theorem m_X6_311 : zMV RX6 311 yX6_lies := ⟨zat 1244 (by decide +kernel) rfl, zat 1246 (by decide +kernel) rfl, zat 50 (by decide +kernel) rfl⟩
theorem zinX0 : ∀ w ∈ wsX00, w ∈ ztb := zin_u inX0 (by decide +kernel)
theorem zinX1 : ∀ w ∈ wsX10, w ∈ ztb := zin_u inX1 (by decide +kernel)
theorem zinX2 : ∀ w ∈ wsX20, w ∈ ztb := zin_u inX2 (by decide +kernel)
theorem zinX3 : ∀ w ∈ wsX30, w ∈ ztb := zin_u inX3 (by decide +kernel)
theorem zinX4 : ∀ w ∈ wsX40, w ∈ ztb := zin_u inX4 (by decide +kernel)
theorem zinX5 : ∀ w ∈ wsX50, w ∈ ztb := zin_u inX5 (by decide +kernel)
theorem zinX6 : ∀ w ∈ wsX60, w ∈ ztb := zin_u inX6 (by decide +kernel)
theorem f_X5_10 : zF RX5 10 5 0 := ⟨RX5, TX5, 13, rfl, by decide, zinX5, zat 207 (by decide +kernel) rfl, rfl⟩
theorem f_X5_16 : zF RX5 16 5 1 := ⟨RX5, TX5, 13, rfl, by decide, zinX5, zat 208 (by decide +kernel) rfl, rfl⟩
theorem f_X5_19 : zF RX5 19 5 2 := ⟨RX5, TX5, 13, rfl, by decide, zinX5, zat 209 (by decide +kernel) rfl, rfl⟩
theorem f_X5_22 : zF RX5 22 5 3 := ⟨RX5, TX5, 13, rfl, by decide, zinX5, zat 210 (by decide +kernel) rfl, rfl⟩
theorem p_X5_22 : zP RX5 22 5 3 .boolean := ⟨RX5, TX5, 13, tyX5, rfl, by decide, zinX5, zat 210 (by decide +kernel) rfl, rfl, tyX5_ok, nmX5, rfl, by decide +kernel⟩
theorem f_X5_29 : zF RX5 29 5 4 := ⟨RX5, TX5, 13, rfl, by decide, zinX5, zat 211 (by decide +kernel) rfl, rfl⟩
theorem f_X5_36 : zF RX5 36 5 5 := ⟨RX5, TX5, 13, rfl, by decide, zinX5, zat 212 (by decide +kernel) rfl, rfl⟩
theorem f_X5_43 : zF RX5 43 5 6 := ⟨RX5, TX5, 13, rfl, by decide, zinX5, zat 213 (by decide +kernel) rfl, rfl⟩
theorem f_X5_47 : zF RX5 47 5 7 := ⟨RX5, TX5, 13, rfl, by decide, zinX5, zat 214 (by decide +kernel) rfl, rfl⟩
theorem f_X5_51 : zF RX5 51 5 8 := ⟨RX5, TX5, 13, rfl, by decide, zinX5, zat 215 (by decide +kernel) rfl, rfl⟩
theorem p_X5_51 : zP RX5 51 5 8 .int := ⟨RX5, TX5, 13, tyX5, rfl, by decide, zinX5, zat 215 (by decide +kernel) rfl, rfl, tyX5_ok, nmX5, rfl, by decide +kernel⟩
theorem f_X5_55 : zF RX5 55 5 9 := ⟨RX5, TX5, 13, rfl, by decide, zinX5, zat 216 (by decide +kernel) rfl, rfl⟩
theorem f_X5_58 : zF RX5 58 5 10 := ⟨RX5, TX5, 13, rfl, by decide, zinX5, zat 217 (by decide +kernel) rfl, rfl⟩
theorem p_X5_58 : zP RX5 58 5 10 .int := ⟨RX5, TX5, 13, tyX5, rfl, by decide, zinX5, zat 217 (by decide +kernel) rfl, rfl, tyX5_ok, nmX5, rfl, by decide +kernel⟩
theorem f_X5_63 : zF RX5 63 5 11 := ⟨RX5, TX5, 13, rfl, by decide, zinX5, zat 218 (by decide +kernel) rfl, rfl⟩
theorem f_X5_67 : zF RX5 67 5 12 := ⟨RX5, TX5, 13, rfl, by decide, zinX5, zat 219 (by decide +kernel) rfl, rfl⟩
theorem f_X5_90 : zF RX5 90 4 5 := ⟨RX4, TX4, 6, rfl, by decide, zinX4, zat 93 (by decide +kernel) rfl, rfl⟩
theorem p_X5_90 : zP RX5 90 4 5 .int := ⟨RX4, TX4, 6, tyX4, rfl, by decide, zinX4, zat 93 (by decide +kernel) rfl, rfl, tyX4_ok, nmX4, rfl, by decide +kernel⟩
theorem f_X5_120 : zF RX5 120 4 0 := ⟨RX4, TX4, 6, rfl, by decide, zinX4, zat 82 (by decide +kernel) rfl, rfl⟩
theorem f_X5_123 : zF RX5 123 4 1 := ⟨RX4, TX4, 6, rfl, by decide, zinX4, zat 84 (by decide +kernel) rfl, rfl⟩
theorem f_X5_126 : zF RX5 126 4 2 := ⟨RX4, TX4, 6, rfl, by decide, zinX4, zat 86 (by decide +kernel) rfl, rfl⟩
theorem f_X5_129 : zF RX5 129 4 3 := ⟨RX4, TX4, 6, rfl, by decide, zinX4, zat 88 (by decide +kernel) rfl, rfl⟩
theorem f_X5_132 : zF RX5 132 4 4 := ⟨RX4, TX4, 6, rfl, by decide, zinX4, zat 90 (by decide +kernel) rfl, rfl⟩
theorem f_X5_160 : zF RX5 160 0 0 := ⟨RX0, TX0, 6, rfl, by decide, zinX0, zat 136 (by decide +kernel) rfl, rfl⟩
theorem f_X5_164 : zF RX5 164 0 1 := ⟨RX0, TX0, 6, rfl, by decide, zinX0, zat 138 (by decide +kernel) rfl, rfl⟩
theorem f_X5_167 : zF RX5 167 0 5 := ⟨RX0, TX0, 6, rfl, by decide, zinX0, zat 146 (by decide +kernel) rfl, rfl⟩
theorem p_X5_167 : zP RX5 167 0 5 .long := ⟨RX0, TX0, 6, tyX0, rfl, by decide, zinX0, zat 146 (by decide +kernel) rfl, rfl, tyX0_ok, nmX0, rfl, by decide +kernel⟩
theorem f_X5_175 : zF RX5 175 0 2 := ⟨RX0, TX0, 6, rfl, by decide, zinX0, zat 140 (by decide +kernel) rfl, rfl⟩
theorem f_X5_177 : zF RX5 177 0 3 := ⟨RX0, TX0, 6, rfl, by decide, zinX0, zat 142 (by decide +kernel) rfl, rfl⟩
theorem f_X5_264 : zF RX5 264 3 0 := ⟨RX3, TX3, 3, rfl, by decide, zinX3, zat 196 (by decide +kernel) rfl, rfl⟩
theorem f_X5_267 : zF RX5 267 3 2 := ⟨RX3, TX3, 3, rfl, by decide, zinX3, zat 199 (by decide +kernel) rfl, rfl⟩
theorem p_X5_267 : zP RX5 267 3 2 .boolean := ⟨RX3, TX3, 3, tyX3, rfl, by decide, zinX3, zat 199 (by decide +kernel) rfl, rfl, tyX3_ok, nmX3, rfl, by decide +kernel⟩
theorem f_X5_279 : zF RX5 279 0 4 := ⟨RX0, TX0, 6, rfl, by decide, zinX0, zat 144 (by decide +kernel) rfl, rfl⟩
theorem p_X5_279 : zP RX5 279 0 4 .int := ⟨RX0, TX0, 6, tyX0, rfl, by decide, zinX0, zat 144 (by decide +kernel) rfl, rfl, tyX0_ok, nmX0, rfl, by decide +kernel⟩
theorem f_X5_283 : zF RX5 283 1 2 := ⟨RX1, TX1, 3, rfl, by decide, zinX1, zat 121 (by decide +kernel) rfl, rfl⟩
theorem p_X5_283 : zP RX5 283 1 2 .int := ⟨RX1, TX1, 3, tyX1, rfl, by decide, zinX1, zat 121 (by decide +kernel) rfl, rfl, tyX1_ok, nmX1, rfl, by decide +kernel⟩
theorem f_X0_9 : zF RX0 9 0 0 := ⟨RX0, TX0, 6, rfl, by decide, zinX0, zat 135 (by decide +kernel) rfl, rfl⟩
theorem f_X0_15 : zF RX0 15 0 1 := ⟨RX0, TX0, 6, rfl, by decide, zinX0, zat 137 (by decide +kernel) rfl, rfl⟩
theorem f_X0_18 : zF RX0 18 0 2 := ⟨RX0, TX0, 6, rfl, by decide, zinX0, zat 139 (by decide +kernel) rfl, rfl⟩
theorem f_X0_21 : zF RX0 21 0 3 := ⟨RX0, TX0, 6, rfl, by decide, zinX0, zat 141 (by decide +kernel) rfl, rfl⟩
theorem f_X0_24 : zF RX0 24 0 4 := ⟨RX0, TX0, 6, rfl, by decide, zinX0, zat 143 (by decide +kernel) rfl, rfl⟩
theorem p_X0_24 : zP RX0 24 0 4 .int := ⟨RX0, TX0, 6, tyX0, rfl, by decide, zinX0, zat 143 (by decide +kernel) rfl, rfl, tyX0_ok, nmX0, rfl, by decide +kernel⟩
theorem f_X0_28 : zF RX0 28 0 5 := ⟨RX0, TX0, 6, rfl, by decide, zinX0, zat 145 (by decide +kernel) rfl, rfl⟩
theorem p_X0_28 : zP RX0 28 0 5 .long := ⟨RX0, TX0, 6, tyX0, rfl, by decide, zinX0, zat 145 (by decide +kernel) rfl, rfl, tyX0_ok, nmX0, rfl, by decide +kernel⟩
theorem f_X0_32 : zF RX0 32 4 5 := ⟨RX4, TX4, 6, rfl, by decide, zinX4, zat 92 (by decide +kernel) rfl, rfl⟩
theorem p_X0_32 : zP RX0 32 4 5 .int := ⟨RX4, TX4, 6, tyX4, rfl, by decide, zinX4, zat 92 (by decide +kernel) rfl, rfl, tyX4_ok, nmX4, rfl, by decide +kernel⟩
theorem f_X1_11 : zF RX1 11 1 0 := ⟨RX1, TX1, 3, rfl, by decide, zinX1, zat 118 (by decide +kernel) rfl, rfl⟩
theorem f_X1_17 : zF RX1 17 1 1 := ⟨RX1, TX1, 3, rfl, by decide, zinX1, zat 119 (by decide +kernel) rfl, rfl⟩
theorem p_X1_17 : zP RX1 17 1 1 .int := ⟨RX1, TX1, 3, tyX1, rfl, by decide, zinX1, zat 119 (by decide +kernel) rfl, rfl, tyX1_ok, nmX1, rfl, by decide +kernel⟩
theorem f_X1_21 : zF RX1 21 1 2 := ⟨RX1, TX1, 3, rfl, by decide, zinX1, zat 120 (by decide +kernel) rfl, rfl⟩
theorem p_X1_21 : zP RX1 21 1 2 .int := ⟨RX1, TX1, 3, tyX1, rfl, by decide, zinX1, zat 120 (by decide +kernel) rfl, rfl, tyX1_ok, nmX1, rfl, by decide +kernel⟩
theorem f_X2_11 : zF RX2 11 2 0 := ⟨RX2, TX2, 6, rfl, by decide, zinX2, zat 168 (by decide +kernel) rfl, rfl⟩
theorem f_X2_15 : zF RX2 15 2 1 := ⟨RX2, TX2, 6, rfl, by decide, zinX2, zat 169 (by decide +kernel) rfl, rfl⟩
theorem p_X2_15 : zP RX2 15 2 1 .int := ⟨RX2, TX2, 6, tyX2, rfl, by decide, zinX2, zat 169 (by decide +kernel) rfl, rfl, tyX2_ok, nmX2, rfl, by decide +kernel⟩
theorem f_X2_19 : zF RX2 19 2 2 := ⟨RX2, TX2, 6, rfl, by decide, zinX2, zat 170 (by decide +kernel) rfl, rfl⟩
theorem p_X2_19 : zP RX2 19 2 2 .int := ⟨RX2, TX2, 6, tyX2, rfl, by decide, zinX2, zat 170 (by decide +kernel) rfl, rfl, tyX2_ok, nmX2, rfl, by decide +kernel⟩
theorem f_X2_24 : zF RX2 24 2 3 := ⟨RX2, TX2, 6, rfl, by decide, zinX2, zat 171 (by decide +kernel) rfl, rfl⟩
theorem p_X2_24 : zP RX2 24 2 3 (.object "java/lang/String") := ⟨RX2, TX2, 6, tyX2, rfl, by decide, zinX2, zat 171 (by decide +kernel) rfl, rfl, tyX2_ok, nmX2, rfl, by decide +kernel⟩
theorem f_X2_28 : zF RX2 28 2 4 := ⟨RX2, TX2, 6, rfl, by decide, zinX2, zat 172 (by decide +kernel) rfl, rfl⟩
theorem p_X2_28 : zP RX2 28 2 4 .int := ⟨RX2, TX2, 6, tyX2, rfl, by decide, zinX2, zat 172 (by decide +kernel) rfl, rfl, tyX2_ok, nmX2, rfl, by decide +kernel⟩
theorem f_X2_31 : zF RX2 31 2 5 := ⟨RX2, TX2, 6, rfl, by decide, zinX2, zat 173 (by decide +kernel) rfl, rfl⟩
theorem p_X2_31 : zP RX2 31 2 5 .boolean := ⟨RX2, TX2, 6, tyX2, rfl, by decide, zinX2, zat 173 (by decide +kernel) rfl, rfl, tyX2_ok, nmX2, rfl, by decide +kernel⟩
theorem f_X2_101 : zF RX2 101 4 5 := ⟨RX4, TX4, 6, rfl, by decide, zinX4, zat 94 (by decide +kernel) rfl, rfl⟩
theorem p_X2_101 : zP RX2 101 4 5 .int := ⟨RX4, TX4, 6, tyX4, rfl, by decide, zinX4, zat 94 (by decide +kernel) rfl, rfl, tyX4_ok, nmX4, rfl, by decide +kernel⟩
theorem f_X3_9 : zF RX3 9 3 0 := ⟨RX3, TX3, 3, rfl, by decide, zinX3, zat 195 (by decide +kernel) rfl, rfl⟩
theorem f_X3_15 : zF RX3 15 3 1 := ⟨RX3, TX3, 3, rfl, by decide, zinX3, zat 197 (by decide +kernel) rfl, rfl⟩
theorem p_X3_15 : zP RX3 15 3 1 .int := ⟨RX3, TX3, 3, tyX3, rfl, by decide, zinX3, zat 197 (by decide +kernel) rfl, rfl, tyX3_ok, nmX3, rfl, by decide +kernel⟩
theorem f_X3_19 : zF RX3 19 3 2 := ⟨RX3, TX3, 3, rfl, by decide, zinX3, zat 198 (by decide +kernel) rfl, rfl⟩
theorem p_X3_19 : zP RX3 19 3 2 .boolean := ⟨RX3, TX3, 3, tyX3, rfl, by decide, zinX3, zat 198 (by decide +kernel) rfl, rfl, tyX3_ok, nmX3, rfl, by decide +kernel⟩
theorem f_X4_9 : zF RX4 9 4 0 := ⟨RX4, TX4, 6, rfl, by decide, zinX4, zat 81 (by decide +kernel) rfl, rfl⟩
theorem f_X4_15 : zF RX4 15 4 1 := ⟨RX4, TX4, 6, rfl, by decide, zinX4, zat 83 (by decide +kernel) rfl, rfl⟩
theorem f_X4_18 : zF RX4 18 4 2 := ⟨RX4, TX4, 6, rfl, by decide, zinX4, zat 85 (by decide +kernel) rfl, rfl⟩
theorem f_X4_21 : zF RX4 21 4 3 := ⟨RX4, TX4, 6, rfl, by decide, zinX4, zat 87 (by decide +kernel) rfl, rfl⟩
theorem f_X4_24 : zF RX4 24 4 4 := ⟨RX4, TX4, 6, rfl, by decide, zinX4, zat 89 (by decide +kernel) rfl, rfl⟩
theorem f_X4_27 : zF RX4 27 4 5 := ⟨RX4, TX4, 6, rfl, by decide, zinX4, zat 91 (by decide +kernel) rfl, rfl⟩
theorem p_X4_27 : zP RX4 27 4 5 .int := ⟨RX4, TX4, 6, tyX4, rfl, by decide, zinX4, zat 91 (by decide +kernel) rfl, rfl, tyX4_ok, nmX4, rfl, by decide +kernel⟩
theorem f_X6_7 : zF RX6 7 6 1 := ⟨RX6, TX6, 23, rfl, by decide, zinX6, zat 813 (by decide +kernel) rfl, rfl⟩
theorem f_X6_23 : zF RX6 23 6 2 := ⟨RX6, TX6, 23, rfl, by decide, zinX6, zat 814 (by decide +kernel) rfl, rfl⟩
theorem f_X6_26 : zF RX6 26 6 3 := ⟨RX6, TX6, 23, rfl, by decide, zinX6, zat 815 (by decide +kernel) rfl, rfl⟩
theorem f_X6_29 : zF RX6 29 6 5 := ⟨RX6, TX6, 23, rfl, by decide, zinX6, zat 817 (by decide +kernel) rfl, rfl⟩
theorem f_X6_32 : zF RX6 32 6 6 := ⟨RX6, TX6, 23, rfl, by decide, zinX6, zat 818 (by decide +kernel) rfl, rfl⟩
theorem f_X6_35 : zF RX6 35 6 10 := ⟨RX6, TX6, 23, rfl, by decide, zinX6, zat 822 (by decide +kernel) rfl, rfl⟩
theorem f_X6_38 : zF RX6 38 6 11 := ⟨RX6, TX6, 23, rfl, by decide, zinX6, zat 823 (by decide +kernel) rfl, rfl⟩
theorem f_X6_41 : zF RX6 41 6 13 := ⟨RX6, TX6, 23, rfl, by decide, zinX6, zat 825 (by decide +kernel) rfl, rfl⟩
theorem f_X6_45 : zF RX6 45 6 14 := ⟨RX6, TX6, 23, rfl, by decide, zinX6, zat 826 (by decide +kernel) rfl, rfl⟩
theorem f_X6_48 : zF RX6 48 6 15 := ⟨RX6, TX6, 23, rfl, by decide, zinX6, zat 827 (by decide +kernel) rfl, rfl⟩
theorem f_X6_51 : zF RX6 51 6 18 := ⟨RX6, TX6, 23, rfl, by decide, zinX6, zat 830 (by decide +kernel) rfl, rfl⟩
theorem f_X6_54 : zF RX6 54 6 19 := ⟨RX6, TX6, 23, rfl, by decide, zinX6, zat 831 (by decide +kernel) rfl, rfl⟩
theorem f_X6_57 : zF RX6 57 6 20 := ⟨RX6, TX6, 23, rfl, by decide, zinX6, zat 832 (by decide +kernel) rfl, rfl⟩
theorem f_X6_60 : zF RX6 60 6 21 := ⟨RX6, TX6, 23, rfl, by decide, zinX6, zat 833 (by decide +kernel) rfl, rfl⟩
theorem f_X6_103 : zF RX6 103 6 4 := ⟨RX6, TX6, 23, rfl, by decide, zinX6, zat 816 (by decide +kernel) rfl, rfl⟩
theorem p_X6_103 : zP RX6 103 6 4 .int := ⟨RX6, TX6, 23, tyX6, rfl, by decide, zinX6, zat 816 (by decide +kernel) rfl, rfl, tyX6_ok, nmX6, rfl, by decide +kernel⟩
theorem f_X6_140 : zF RX6 140 6 7 := ⟨RX6, TX6, 23, rfl, by decide, zinX6, zat 819 (by decide +kernel) rfl, rfl⟩
theorem p_X6_140 : zP RX6 140 6 7 .int := ⟨RX6, TX6, 23, tyX6, rfl, by decide, zinX6, zat 819 (by decide +kernel) rfl, rfl, tyX6_ok, nmX6, rfl, by decide +kernel⟩
theorem f_X6_143 : zF RX6 143 6 8 := ⟨RX6, TX6, 23, rfl, by decide, zinX6, zat 820 (by decide +kernel) rfl, rfl⟩
theorem p_X6_143 : zP RX6 143 6 8 .int := ⟨RX6, TX6, 23, tyX6, rfl, by decide, zinX6, zat 820 (by decide +kernel) rfl, rfl, tyX6_ok, nmX6, rfl, by decide +kernel⟩
theorem f_X6_146 : zF RX6 146 6 9 := ⟨RX6, TX6, 23, rfl, by decide, zinX6, zat 821 (by decide +kernel) rfl, rfl⟩
theorem p_X6_146 : zP RX6 146 6 9 .boolean := ⟨RX6, TX6, 23, tyX6, rfl, by decide, zinX6, zat 821 (by decide +kernel) rfl, rfl, tyX6_ok, nmX6, rfl, by decide +kernel⟩
theorem f_X6_193 : zF RX6 193 6 12 := ⟨RX6, TX6, 23, rfl, by decide, zinX6, zat 824 (by decide +kernel) rfl, rfl⟩
theorem p_X6_193 : zP RX6 193 6 12 .long := ⟨RX6, TX6, 23, tyX6, rfl, by decide, zinX6, zat 824 (by decide +kernel) rfl, rfl, tyX6_ok, nmX6, rfl, by decide +kernel⟩
theorem f_X6_293 : zF RX6 293 6 16 := ⟨RX6, TX6, 23, rfl, by decide, zinX6, zat 828 (by decide +kernel) rfl, rfl⟩
theorem p_X6_293 : zP RX6 293 6 16 .int := ⟨RX6, TX6, 23, tyX6, rfl, by decide, zinX6, zat 828 (by decide +kernel) rfl, rfl, tyX6_ok, nmX6, rfl, by decide +kernel⟩
theorem f_X6_299 : zF RX6 299 6 17 := ⟨RX6, TX6, 23, rfl, by decide, zinX6, zat 829 (by decide +kernel) rfl, rfl⟩
theorem p_X6_299 : zP RX6 299 6 17 .int := ⟨RX6, TX6, 23, tyX6, rfl, by decide, zinX6, zat 829 (by decide +kernel) rfl, rfl, tyX6_ok, nmX6, rfl, by decide +kernel⟩
theorem f_X6_319 : zF RX6 319 6 22 := ⟨RX6, TX6, 23, rfl, by decide, zinX6, zat 834 (by decide +kernel) rfl, rfl⟩
theorem p_X6_319 : zP RX6 319 6 22 .boolean := ⟨RX6, TX6, 23, tyX6, rfl, by decide, zinX6, zat 834 (by decide +kernel) rfl, rfl, tyX6_ok, nmX6, rfl, by decide +kernel⟩
theorem k_X5_233 : Cond.constantLong RX5 233 (100) ∈ ztb := zat 695 (by decide +kernel) rfl
theorem k_X5_259 : Cond.constantLong RX5 259 (4000000000000000011) ∈ ztb := zat 760 (by decide +kernel) rfl
theorem k_X5_262 : Cond.constantLong RX5 262 (4000000000000000013) ∈ ztb := zat 762 (by decide +kernel) rfl
theorem k_X5_291 : Cond.constantLong RX5 291 (4000000000000000000) ∈ ztb := zat 449 (by decide +kernel) rfl
theorem k_X0_58 : Cond.constantLong RX0 58 (2) ∈ ztb := zat 556 (by decide +kernel) rfl
theorem k_X4_50 : Cond.constant RX4 50 (1664525) ∈ ztb := zat 726 (by decide +kernel) rfl
theorem k_X4_51 : Cond.constant RX4 51 (1013904223) ∈ ztb := zat 727 (by decide +kernel) rfl
theorem k_X4_52 : Cond.constant RX4 52 (2147483647) ∈ ztb := zat 728 (by decide +kernel) rfl
theorem k_L_138 : Cond.constantLong RL 138 (4294967295) ∈ ztb := zat 1280 (by decide +kernel) rfl
theorem k_X6_11 : Cond.constantLong RX6 11 (4000000000000000000) ∈ ztb := zat 1007 (by decide +kernel) rfl
theorem k_X6_110 : Cond.constantLong RX6 110 (5) ∈ ztb := zat 936 (by decide +kernel) rfl
theorem k_X6_153 : Cond.constantLong RX6 153 (48) ∈ ztb := zat 985 (by decide +kernel) rfl
theorem k_X6_155 : Cond.constantLong RX6 155 (57) ∈ ztb := zat 986 (by decide +kernel) rfl
theorem k_X6_188 : Cond.constantLong RX6 188 (-1) ∈ ztb := zat 1059 (by decide +kernel) rfl
theorem k_X6_218 : Cond.constantLong RX6 218 (2) ∈ ztb := zat 1084 (by decide +kernel) rfl
theorem k_X6_289 : Cond.constantLong RX6 289 (200) ∈ ztb := zat 1204 (by decide +kernel) rfl
theorem k_X6_291 : Cond.constantLong RX6 291 (-9) ∈ ztb := zat 1205 (by decide +kernel) rfl
theorem k_X6_302 : Cond.constant RX6 302 (1664525) ∈ ztb := zat 1230 (by decide +kernel) rfl
theorem k_X6_303 : Cond.constant RX6 303 (1013904223) ∈ ztb := zat 1231 (by decide +kernel) rfl
theorem k_X6_304 : Cond.constant RX6 304 (2147483647) ∈ ztb := zat 1232 (by decide +kernel) rfl
theorem k_X6_315 : Cond.constantLong RX6 315 (4000000000000000011) ∈ ztb := zat 1252 (by decide +kernel) rfl
theorem k_X6_317 : Cond.constantLong RX6 317 (4000000000000000013) ∈ ztb := zat 1253 (by decide +kernel) rfl
theorem k_X6_322 : Cond.constantLong RX6 322 (11) ∈ ztb := zat 1278 (by decide +kernel) rfl
theorem k_X6_324 : Cond.constantLong RX6 324 (16) ∈ ztb := zat 1279 (by decide +kernel) rfl
theorem k_J6_265 : Cond.constant RJ6 265 (1431655765) ∈ ztb := zat 631 (by decide +kernel) rfl
theorem k_J6_266 : Cond.constant RJ6 266 (858993459) ∈ ztb := zat 632 (by decide +kernel) rfl
theorem k_J6_267 : Cond.constant RJ6 267 (252645135) ∈ ztb := zat 633 (by decide +kernel) rfl
