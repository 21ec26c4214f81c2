/-! THE LAW: what is owed of the two graphs, and the law's loop over it -/
theorem lb_X11_dish : LB mX11_dish 3 := ⟨tb2 161 (by decide +kernel) rfl, tb1 1 (by decide +kernel) rfl, ⟨by decide +kernel, by decide +kernel, by decide +kernel⟩, by decide⟩
theorem lb_X12_dish : LB mX12_dish 3 := ⟨tb6 67 (by decide +kernel) rfl, tb1 15 (by decide +kernel) rfl, ⟨by decide +kernel, by decide +kernel, by decide +kernel⟩, by decide⟩
theorem lb_X11_price : LB mX11_price 2 := ⟨tb2 174 (by decide +kernel) rfl, tb1 1 (by decide +kernel) rfl, ⟨by decide +kernel, by decide +kernel, by decide +kernel⟩, by decide⟩
theorem lb_X12_price : LB mX12_price 2 := ⟨tb6 79 (by decide +kernel) rfl, tb1 15 (by decide +kernel) rfl, ⟨by decide +kernel, by decide +kernel, by decide +kernel⟩, by decide⟩
theorem lb_X11_lay : LB mX11_lay 1 := ⟨tb2 178 (by decide +kernel) rfl, tb1 1 (by decide +kernel) rfl, ⟨by decide +kernel, by decide +kernel, by decide +kernel⟩, by decide⟩
theorem lb_X11_plate : LB mX11_plate 2 := ⟨tb2 199 (by decide +kernel) rfl, tb1 1 (by decide +kernel) rfl, ⟨by decide +kernel, by decide +kernel, by decide +kernel⟩, by decide⟩
theorem lb_X12_plate : LB mX12_plate 2 := ⟨tb6 91 (by decide +kernel) rfl, tb1 15 (by decide +kernel) rfl, ⟨by decide +kernel, by decide +kernel, by decide +kernel⟩, by decide⟩
theorem lb_X11_at : LB mX11_at 1 := ⟨tb2 215 (by decide +kernel) rfl, tb1 1 (by decide +kernel) rfl, ⟨by decide +kernel, by decide +kernel, by decide +kernel⟩, by decide⟩
theorem lb_X12_at : LB mX12_at 1 := ⟨tb6 99 (by decide +kernel) rfl, tb1 15 (by decide +kernel) rfl, ⟨by decide +kernel, by decide +kernel, by decide +kernel⟩, by decide⟩
theorem lb_X11_gone : LB mX11_gone 1 := ⟨tb2 223 (by decide +kernel) rfl, tb1 1 (by decide +kernel) rfl, ⟨by decide +kernel, by decide +kernel, by decide +kernel⟩, by decide⟩
theorem lb_X12_gone : LB mX12_gone 1 := ⟨tb6 107 (by decide +kernel) rfl, tb1 15 (by decide +kernel) rfl, ⟨by decide +kernel, by decide +kernel, by decide +kernel⟩, by decide⟩
theorem lb_X11_seat : LB mX11_seat 1 := ⟨tb2 228 (by decide +kernel) rfl, tb1 1 (by decide +kernel) rfl, ⟨by decide +kernel, by decide +kernel, by decide +kernel⟩, by decide⟩
theorem lb_X12_seat : LB mX12_seat 1 := ⟨tb6 115 (by decide +kernel) rfl, tb1 15 (by decide +kernel) rfl, ⟨by decide +kernel, by decide +kernel, by decide +kernel⟩, by decide⟩
theorem lb_X11_guest : LB mX11_guest 3 := ⟨tb3 4 (by decide +kernel) rfl, tb1 1 (by decide +kernel) rfl, ⟨by decide +kernel, by decide +kernel, by decide +kernel⟩, by decide⟩
theorem lb_X12_guest : LB mX12_guest 3 := ⟨tb6 119 (by decide +kernel) rfl, tb1 15 (by decide +kernel) rfl, ⟨by decide +kernel, by decide +kernel, by decide +kernel⟩, by decide⟩
theorem lb_X11_seatTold : LB mX11_seatTold 2 := ⟨tb3 27 (by decide +kernel) rfl, tb1 1 (by decide +kernel) rfl, ⟨by decide +kernel, by decide +kernel, by decide +kernel⟩, by decide⟩
theorem lb_X12_seatTold : LB mX12_seatTold 2 := ⟨tb6 128 (by decide +kernel) rfl, tb1 15 (by decide +kernel) rfl, ⟨by decide +kernel, by decide +kernel, by decide +kernel⟩, by decide⟩
theorem lb_X11_liking : LB mX11_liking 2 := ⟨tb3 54 (by decide +kernel) rfl, tb1 1 (by decide +kernel) rfl, ⟨by decide +kernel, by decide +kernel, by decide +kernel⟩, by decide⟩
theorem lb_X12_liking : LB mX12_liking 2 := ⟨tb6 140 (by decide +kernel) rfl, tb1 15 (by decide +kernel) rfl, ⟨by decide +kernel, by decide +kernel, by decide +kernel⟩, by decide⟩
theorem lb_X11_pays : LB mX11_pays 2 := ⟨tb3 70 (by decide +kernel) rfl, tb1 1 (by decide +kernel) rfl, ⟨by decide +kernel, by decide +kernel, by decide +kernel⟩, by decide⟩
theorem lb_X12_pays : LB mX12_pays 2 := ⟨tb6 153 (by decide +kernel) rfl, tb1 15 (by decide +kernel) rfl, ⟨by decide +kernel, by decide +kernel, by decide +kernel⟩, by decide⟩
theorem lb_X11_putBack : LB mX11_putBack 1 := ⟨tb3 74 (by decide +kernel) rfl, tb1 1 (by decide +kernel) rfl, ⟨by decide +kernel, by decide +kernel, by decide +kernel⟩, by decide⟩
theorem lb_X12_putBack : LB mX12_putBack 1 := ⟨tb6 157 (by decide +kernel) rfl, tb1 15 (by decide +kernel) rfl, ⟨by decide +kernel, by decide +kernel, by decide +kernel⟩, by decide⟩
theorem lb_X11_feed : LB mX11_feed 2 := ⟨tb3 84 (by decide +kernel) rfl, tb1 1 (by decide +kernel) rfl, ⟨by decide +kernel, by decide +kernel, by decide +kernel⟩, by decide⟩
theorem lb_X12_feed : LB mX12_feed 2 := ⟨tb6 161 (by decide +kernel) rfl, tb1 15 (by decide +kernel) rfl, ⟨by decide +kernel, by decide +kernel, by decide +kernel⟩, by decide⟩
theorem lb_X11_text : LB mX11_text 0 := ⟨tb3 92 (by decide +kernel) rfl, tb1 1 (by decide +kernel) rfl, ⟨by decide +kernel, by decide +kernel, by decide +kernel⟩, by decide⟩
theorem lb_X12_text : LB mX12_text 0 := ⟨tb6 165 (by decide +kernel) rfl, tb1 15 (by decide +kernel) rfl, ⟨by decide +kernel, by decide +kernel, by decide +kernel⟩, by decide⟩
theorem lb_X11_force : LB mX11_force 1 := ⟨tb4 48 (by decide +kernel) rfl, tb1 1 (by decide +kernel) rfl, ⟨by decide +kernel, by decide +kernel, by decide +kernel⟩, by decide⟩
theorem lb_X12_force : LB mX12_force 1 := ⟨tb7 1 (by decide +kernel) rfl, tb1 15 (by decide +kernel) rfl, ⟨by decide +kernel, by decide +kernel, by decide +kernel⟩, by decide⟩
theorem lb_X11_says : LB mX11_says 3 := ⟨tb4 56 (by decide +kernel) rfl, tb1 1 (by decide +kernel) rfl, ⟨by decide +kernel, by decide +kernel, by decide +kernel⟩, by decide⟩
theorem lb_X12_says : LB mX12_says 3 := ⟨tb7 5 (by decide +kernel) rfl, tb1 15 (by decide +kernel) rfl, ⟨by decide +kernel, by decide +kernel, by decide +kernel⟩, by decide⟩
theorem lb_X11_tick : LB mX11_tick 1 := ⟨tb4 89 (by decide +kernel) rfl, tb1 1 (by decide +kernel) rfl, ⟨by decide +kernel, by decide +kernel, by decide +kernel⟩, by decide⟩
theorem lb_X12_tick : LB mX12_tick 1 := ⟨tb7 21 (by decide +kernel) rfl, tb1 15 (by decide +kernel) rfl, ⟨by decide +kernel, by decide +kernel, by decide +kernel⟩, by decide⟩
theorem lb_X11_order : LB mX11_order 2 := ⟨tb4 152 (by decide +kernel) rfl, tb1 1 (by decide +kernel) rfl, ⟨by decide +kernel, by decide +kernel, by decide +kernel⟩, by decide⟩
theorem lb_X12_order : LB mX12_order 2 := ⟨tb7 49 (by decide +kernel) rfl, tb1 15 (by decide +kernel) rfl, ⟨by decide +kernel, by decide +kernel, by decide +kernel⟩, by decide⟩
theorem lb_X11_lane : LB mX11_lane 1 := ⟨tb4 169 (by decide +kernel) rfl, tb1 1 (by decide +kernel) rfl, ⟨by decide +kernel, by decide +kernel, by decide +kernel⟩, by decide⟩
theorem lb_X12_lane : LB mX12_lane 1 := ⟨tb7 53 (by decide +kernel) rfl, tb1 15 (by decide +kernel) rfl, ⟨by decide +kernel, by decide +kernel, by decide +kernel⟩, by decide⟩
theorem lb_X11_empties : LB mX11_empties 2 := ⟨tb4 173 (by decide +kernel) rfl, tb1 1 (by decide +kernel) rfl, ⟨by decide +kernel, by decide +kernel, by decide +kernel⟩, by decide⟩
theorem lb_X12_empties : LB mX12_empties 2 := ⟨tb7 57 (by decide +kernel) rfl, tb1 15 (by decide +kernel) rfl, ⟨by decide +kernel, by decide +kernel, by decide +kernel⟩, by decide⟩
theorem lb_X11_waste : LB mX11_waste 1 := ⟨tb4 191 (by decide +kernel) rfl, tb1 1 (by decide +kernel) rfl, ⟨by decide +kernel, by decide +kernel, by decide +kernel⟩, by decide⟩
theorem lb_X12_waste : LB mX12_waste 1 := ⟨tb7 65 (by decide +kernel) rfl, tb1 15 (by decide +kernel) rfl, ⟨by decide +kernel, by decide +kernel, by decide +kernel⟩, by decide⟩
theorem lb_X11_ahead : LB mX11_ahead 3 := ⟨tb4 195 (by decide +kernel) rfl, tb1 1 (by decide +kernel) rfl, ⟨by decide +kernel, by decide +kernel, by decide +kernel⟩, by decide⟩
theorem lb_X12_ahead_ : LB mX12_ahead_ 3 := ⟨tb7 69 (by decide +kernel) rfl, tb1 15 (by decide +kernel) rfl, ⟨by decide +kernel, by decide +kernel, by decide +kernel⟩, by decide⟩
theorem lb_X11_worth : LB mX11_worth 2 := ⟨tb5 2 (by decide +kernel) rfl, tb1 1 (by decide +kernel) rfl, ⟨by decide +kernel, by decide +kernel, by decide +kernel⟩, by decide⟩
theorem lb_X12_worth : LB mX12_worth 2 := ⟨tb7 94 (by decide +kernel) rfl, tb1 15 (by decide +kernel) rfl, ⟨by decide +kernel, by decide +kernel, by decide +kernel⟩, by decide⟩
theorem lb_X11_piece : LB mX11_piece 2 := ⟨tb5 6 (by decide +kernel) rfl, tb1 1 (by decide +kernel) rfl, ⟨by decide +kernel, by decide +kernel, by decide +kernel⟩, by decide⟩
theorem lb_X12_piece : LB mX12_piece 2 := ⟨tb7 98 (by decide +kernel) rfl, tb1 15 (by decide +kernel) rfl, ⟨by decide +kernel, by decide +kernel, by decide +kernel⟩, by decide⟩
theorem lb_X11_cut : LB mX11_cut 2 := ⟨tb5 10 (by decide +kernel) rfl, tb1 1 (by decide +kernel) rfl, ⟨by decide +kernel, by decide +kernel, by decide +kernel⟩, by decide⟩
theorem lb_X12_cut : LB mX12_cut 2 := ⟨tb7 102 (by decide +kernel) rfl, tb1 15 (by decide +kernel) rfl, ⟨by decide +kernel, by decide +kernel, by decide +kernel⟩, by decide⟩
theorem lb_X11_count : LB mX11_count 1 := ⟨tb5 28 (by decide +kernel) rfl, tb1 1 (by decide +kernel) rfl, ⟨by decide +kernel, by decide +kernel, by decide +kernel⟩, by decide⟩
theorem lb_X12_count : LB mX12_count 1 := ⟨tb7 114 (by decide +kernel) rfl, tb1 15 (by decide +kernel) rfl, ⟨by decide +kernel, by decide +kernel, by decide +kernel⟩, by decide⟩
theorem lb_X11_sheet : LB mX11_sheet 3 := ⟨tb5 41 (by decide +kernel) rfl, tb1 1 (by decide +kernel) rfl, ⟨by decide +kernel, by decide +kernel, by decide +kernel⟩, by decide⟩
theorem lb_X12_sheet : LB mX12_sheet 3 := ⟨tb7 126 (by decide +kernel) rfl, tb1 15 (by decide +kernel) rfl, ⟨by decide +kernel, by decide +kernel, by decide +kernel⟩, by decide⟩
theorem lb_X11_cell : LB mX11_cell 3 := ⟨tb5 62 (by decide +kernel) rfl, tb1 1 (by decide +kernel) rfl, ⟨by decide +kernel, by decide +kernel, by decide +kernel⟩, by decide⟩
theorem lb_X12_cell : LB mX12_cell 3 := ⟨tb7 134 (by decide +kernel) rfl, tb1 15 (by decide +kernel) rfl, ⟨by decide +kernel, by decide +kernel, by decide +kernel⟩, by decide⟩
theorem lb_X11_lays : LB mX11_lays 4 := ⟨tb5 75 (by decide +kernel) rfl, tb1 1 (by decide +kernel) rfl, ⟨by decide +kernel, by decide +kernel, by decide +kernel⟩, by decide⟩
theorem lb_X12_lays : LB mX12_lays 4 := ⟨tb7 138 (by decide +kernel) rfl, tb1 15 (by decide +kernel) rfl, ⟨by decide +kernel, by decide +kernel, by decide +kernel⟩, by decide⟩
theorem lb_X11_taken : LB mX11_taken 2 := ⟨tb5 83 (by decide +kernel) rfl, tb1 1 (by decide +kernel) rfl, ⟨by decide +kernel, by decide +kernel, by decide +kernel⟩, by decide⟩
theorem lb_X12_taken : LB mX12_taken 2 := ⟨tb7 142 (by decide +kernel) rfl, tb1 15 (by decide +kernel) rfl, ⟨by decide +kernel, by decide +kernel, by decide +kernel⟩, by decide⟩
theorem ln_PlateRoundLaw_21 : LV RL 21 11 mX11_dish := ⟨by decide, tb2 158 (by decide +kernel) rfl, tb2 159 (by decide +kernel) rfl, tb2 160 (by decide +kernel) rfl⟩
theorem ln_PlateRoundLaw_25 : LV RL 25 12 mX12_dish := ⟨by decide, tb6 64 (by decide +kernel) rfl, tb6 65 (by decide +kernel) rfl, tb6 66 (by decide +kernel) rfl⟩
theorem ln_PlateRoundLaw_26 : LV RL 26 11 mX11_price := ⟨by decide, tb2 171 (by decide +kernel) rfl, tb2 172 (by decide +kernel) rfl, tb2 173 (by decide +kernel) rfl⟩
theorem ln_PlateRoundLaw_30 : LV RL 30 12 mX12_price := ⟨by decide, tb6 76 (by decide +kernel) rfl, tb6 77 (by decide +kernel) rfl, tb6 78 (by decide +kernel) rfl⟩
theorem ln_PlateRoundLaw_31 : LV RL 31 11 mX11_lay := ⟨by decide, tb2 175 (by decide +kernel) rfl, tb2 176 (by decide +kernel) rfl, tb2 177 (by decide +kernel) rfl⟩
theorem ln_PlateRoundLaw_35 : LV RL 35 12 mX12_lay := ⟨by decide, tb6 80 (by decide +kernel) rfl, tb6 81 (by decide +kernel) rfl, tb6 82 (by decide +kernel) rfl⟩
theorem ln_PlateRoundLaw_36 : LV RL 36 11 mX11_plate := ⟨by decide, tb2 196 (by decide +kernel) rfl, tb2 197 (by decide +kernel) rfl, tb2 198 (by decide +kernel) rfl⟩
theorem ln_PlateRoundLaw_39 : LV RL 39 12 mX12_plate := ⟨by decide, tb6 88 (by decide +kernel) rfl, tb6 89 (by decide +kernel) rfl, tb6 90 (by decide +kernel) rfl⟩
theorem ln_PlateRoundLaw_40 : LV RL 40 11 mX11_at := ⟨by decide, tb2 212 (by decide +kernel) rfl, tb2 213 (by decide +kernel) rfl, tb2 214 (by decide +kernel) rfl⟩
theorem ln_PlateRoundLaw_43 : LV RL 43 12 mX12_at := ⟨by decide, tb6 96 (by decide +kernel) rfl, tb6 97 (by decide +kernel) rfl, tb6 98 (by decide +kernel) rfl⟩
theorem ln_PlateRoundLaw_44 : LV RL 44 11 mX11_gone := ⟨by decide, tb2 220 (by decide +kernel) rfl, tb2 221 (by decide +kernel) rfl, tb2 222 (by decide +kernel) rfl⟩
theorem ln_PlateRoundLaw_47 : LV RL 47 12 mX12_gone := ⟨by decide, tb6 104 (by decide +kernel) rfl, tb6 105 (by decide +kernel) rfl, tb6 106 (by decide +kernel) rfl⟩
theorem ln_PlateRoundLaw_48 : LV RL 48 11 mX11_seat := ⟨by decide, tb2 225 (by decide +kernel) rfl, tb2 226 (by decide +kernel) rfl, tb2 227 (by decide +kernel) rfl⟩
theorem ln_PlateRoundLaw_51 : LV RL 51 12 mX12_seat := ⟨by decide, tb6 112 (by decide +kernel) rfl, tb6 113 (by decide +kernel) rfl, tb6 114 (by decide +kernel) rfl⟩
theorem ln_PlateRoundLaw_52 : LV RL 52 11 mX11_guest := ⟨by decide, tb3 1 (by decide +kernel) rfl, tb3 2 (by decide +kernel) rfl, tb3 3 (by decide +kernel) rfl⟩
theorem ln_PlateRoundLaw_55 : LV RL 55 12 mX12_guest := ⟨by decide, tb6 116 (by decide +kernel) rfl, tb6 117 (by decide +kernel) rfl, tb6 118 (by decide +kernel) rfl⟩
theorem ln_PlateRoundLaw_56 : LV RL 56 11 mX11_seatTold := ⟨by decide, tb3 24 (by decide +kernel) rfl, tb3 25 (by decide +kernel) rfl, tb3 26 (by decide +kernel) rfl⟩
theorem ln_PlateRoundLaw_59 : LV RL 59 12 mX12_seatTold := ⟨by decide, tb6 125 (by decide +kernel) rfl, tb6 126 (by decide +kernel) rfl, tb6 127 (by decide +kernel) rfl⟩
theorem ln_PlateRoundLaw_60 : LV RL 60 11 mX11_liking := ⟨by decide, tb3 51 (by decide +kernel) rfl, tb3 52 (by decide +kernel) rfl, tb3 53 (by decide +kernel) rfl⟩
theorem ln_PlateRoundLaw_64 : LV RL 64 12 mX12_liking := ⟨by decide, tb6 137 (by decide +kernel) rfl, tb6 138 (by decide +kernel) rfl, tb6 139 (by decide +kernel) rfl⟩
theorem ln_PlateRoundLaw_65 : LV RL 65 11 mX11_pays := ⟨by decide, tb3 67 (by decide +kernel) rfl, tb3 68 (by decide +kernel) rfl, tb3 69 (by decide +kernel) rfl⟩
theorem ln_PlateRoundLaw_68 : LV RL 68 12 mX12_pays := ⟨by decide, tb6 150 (by decide +kernel) rfl, tb6 151 (by decide +kernel) rfl, tb6 152 (by decide +kernel) rfl⟩
theorem ln_PlateRoundLaw_69 : LV RL 69 11 mX11_putBack := ⟨by decide, tb3 71 (by decide +kernel) rfl, tb3 72 (by decide +kernel) rfl, tb3 73 (by decide +kernel) rfl⟩
theorem ln_PlateRoundLaw_72 : LV RL 72 12 mX12_putBack := ⟨by decide, tb6 154 (by decide +kernel) rfl, tb6 155 (by decide +kernel) rfl, tb6 156 (by decide +kernel) rfl⟩
theorem ln_PlateRoundLaw_75 : LV RL 75 11 mX11_feed := ⟨by decide, tb3 81 (by decide +kernel) rfl, tb3 82 (by decide +kernel) rfl, tb3 83 (by decide +kernel) rfl⟩
theorem ln_PlateRoundLaw_79 : LV RL 79 12 mX12_feed := ⟨by decide, tb6 158 (by decide +kernel) rfl, tb6 159 (by decide +kernel) rfl, tb6 160 (by decide +kernel) rfl⟩
theorem ln_PlateRoundLaw_80 : LV RL 80 11 mX11_text := ⟨by decide, tb3 89 (by decide +kernel) rfl, tb3 90 (by decide +kernel) rfl, tb3 91 (by decide +kernel) rfl⟩
theorem ln_PlateRoundLaw_84 : LV RL 84 12 mX12_text := ⟨by decide, tb6 162 (by decide +kernel) rfl, tb6 163 (by decide +kernel) rfl, tb6 164 (by decide +kernel) rfl⟩
theorem ln_PlateRoundLaw_85 : LV RL 85 11 mX11_force := ⟨by decide, tb4 45 (by decide +kernel) rfl, tb4 46 (by decide +kernel) rfl, tb4 47 (by decide +kernel) rfl⟩
theorem ln_PlateRoundLaw_88 : LV RL 88 12 mX12_force := ⟨by decide, tb6 238 (by decide +kernel) rfl, tb6 239 (by decide +kernel) rfl, tb7 0 (by decide +kernel) rfl⟩
theorem ln_PlateRoundLaw_89 : LV RL 89 11 mX11_says := ⟨by decide, tb4 53 (by decide +kernel) rfl, tb4 54 (by decide +kernel) rfl, tb4 55 (by decide +kernel) rfl⟩
theorem ln_PlateRoundLaw_93 : LV RL 93 12 mX12_says := ⟨by decide, tb7 2 (by decide +kernel) rfl, tb7 3 (by decide +kernel) rfl, tb7 4 (by decide +kernel) rfl⟩
theorem ln_PlateRoundLaw_94 : LV RL 94 11 mX11_tick := ⟨by decide, tb4 86 (by decide +kernel) rfl, tb4 87 (by decide +kernel) rfl, tb4 88 (by decide +kernel) rfl⟩
theorem ln_PlateRoundLaw_97 : LV RL 97 12 mX12_tick := ⟨by decide, tb7 18 (by decide +kernel) rfl, tb7 19 (by decide +kernel) rfl, tb7 20 (by decide +kernel) rfl⟩
theorem ln_PlateRoundLaw_98 : LV RL 98 11 mX11_order := ⟨by decide, tb4 149 (by decide +kernel) rfl, tb4 150 (by decide +kernel) rfl, tb4 151 (by decide +kernel) rfl⟩
theorem ln_PlateRoundLaw_101 : LV RL 101 12 mX12_order := ⟨by decide, tb7 46 (by decide +kernel) rfl, tb7 47 (by decide +kernel) rfl, tb7 48 (by decide +kernel) rfl⟩
theorem ln_PlateRoundLaw_102 : LV RL 102 11 mX11_lane := ⟨by decide, tb4 166 (by decide +kernel) rfl, tb4 167 (by decide +kernel) rfl, tb4 168 (by decide +kernel) rfl⟩
theorem ln_PlateRoundLaw_105 : LV RL 105 12 mX12_lane := ⟨by decide, tb7 50 (by decide +kernel) rfl, tb7 51 (by decide +kernel) rfl, tb7 52 (by decide +kernel) rfl⟩
theorem ln_PlateRoundLaw_106 : LV RL 106 11 mX11_empties := ⟨by decide, tb4 170 (by decide +kernel) rfl, tb4 171 (by decide +kernel) rfl, tb4 172 (by decide +kernel) rfl⟩
theorem ln_PlateRoundLaw_109 : LV RL 109 12 mX12_empties := ⟨by decide, tb7 54 (by decide +kernel) rfl, tb7 55 (by decide +kernel) rfl, tb7 56 (by decide +kernel) rfl⟩
theorem ln_PlateRoundLaw_110 : LV RL 110 11 mX11_waste := ⟨by decide, tb4 188 (by decide +kernel) rfl, tb4 189 (by decide +kernel) rfl, tb4 190 (by decide +kernel) rfl⟩
theorem ln_PlateRoundLaw_113 : LV RL 113 12 mX12_waste := ⟨by decide, tb7 62 (by decide +kernel) rfl, tb7 63 (by decide +kernel) rfl, tb7 64 (by decide +kernel) rfl⟩
theorem ln_PlateRoundLaw_114 : LV RL 114 11 mX11_ahead := ⟨by decide, tb4 192 (by decide +kernel) rfl, tb4 193 (by decide +kernel) rfl, tb4 194 (by decide +kernel) rfl⟩
theorem ln_PlateRoundLaw_117 : LV RL 117 12 mX12_ahead_ := ⟨by decide, tb7 66 (by decide +kernel) rfl, tb7 67 (by decide +kernel) rfl, tb7 68 (by decide +kernel) rfl⟩
theorem ln_PlateRoundLaw_118 : LV RL 118 11 mX11_worth := ⟨by decide, tb4 239 (by decide +kernel) rfl, tb5 0 (by decide +kernel) rfl, tb5 1 (by decide +kernel) rfl⟩
theorem ln_PlateRoundLaw_121 : LV RL 121 12 mX12_worth := ⟨by decide, tb7 91 (by decide +kernel) rfl, tb7 92 (by decide +kernel) rfl, tb7 93 (by decide +kernel) rfl⟩
theorem ln_PlateRoundLaw_122 : LV RL 122 11 mX11_piece := ⟨by decide, tb5 3 (by decide +kernel) rfl, tb5 4 (by decide +kernel) rfl, tb5 5 (by decide +kernel) rfl⟩
theorem ln_PlateRoundLaw_125 : LV RL 125 12 mX12_piece := ⟨by decide, tb7 95 (by decide +kernel) rfl, tb7 96 (by decide +kernel) rfl, tb7 97 (by decide +kernel) rfl⟩
theorem ln_PlateRoundLaw_126 : LV RL 126 11 mX11_cut := ⟨by decide, tb5 7 (by decide +kernel) rfl, tb5 8 (by decide +kernel) rfl, tb5 9 (by decide +kernel) rfl⟩
theorem ln_PlateRoundLaw_129 : LV RL 129 12 mX12_cut := ⟨by decide, tb7 99 (by decide +kernel) rfl, tb7 100 (by decide +kernel) rfl, tb7 101 (by decide +kernel) rfl⟩
theorem ln_PlateRoundLaw_130 : LV RL 130 11 mX11_count := ⟨by decide, tb5 25 (by decide +kernel) rfl, tb5 26 (by decide +kernel) rfl, tb5 27 (by decide +kernel) rfl⟩
theorem ln_PlateRoundLaw_133 : LV RL 133 12 mX12_count := ⟨by decide, tb7 111 (by decide +kernel) rfl, tb7 112 (by decide +kernel) rfl, tb7 113 (by decide +kernel) rfl⟩
theorem ln_PlateRoundLaw_134 : LV RL 134 11 mX11_sheet := ⟨by decide, tb5 38 (by decide +kernel) rfl, tb5 39 (by decide +kernel) rfl, tb5 40 (by decide +kernel) rfl⟩
theorem ln_PlateRoundLaw_137 : LV RL 137 12 mX12_sheet := ⟨by decide, tb7 123 (by decide +kernel) rfl, tb7 124 (by decide +kernel) rfl, tb7 125 (by decide +kernel) rfl⟩
theorem ln_PlateRoundLaw_138 : LV RL 138 11 mX11_cell := ⟨by decide, tb5 59 (by decide +kernel) rfl, tb5 60 (by decide +kernel) rfl, tb5 61 (by decide +kernel) rfl⟩
theorem ln_PlateRoundLaw_140 : LV RL 140 12 mX12_cell := ⟨by decide, tb7 131 (by decide +kernel) rfl, tb7 132 (by decide +kernel) rfl, tb7 133 (by decide +kernel) rfl⟩
theorem ln_PlateRoundLaw_141 : LV RL 141 11 mX11_lays := ⟨by decide, tb5 72 (by decide +kernel) rfl, tb5 73 (by decide +kernel) rfl, tb5 74 (by decide +kernel) rfl⟩
theorem ln_PlateRoundLaw_145 : LV RL 145 12 mX12_lays := ⟨by decide, tb7 135 (by decide +kernel) rfl, tb7 136 (by decide +kernel) rfl, tb7 137 (by decide +kernel) rfl⟩
theorem ln_PlateRoundLaw_146 : LV RL 146 11 mX11_taken := ⟨by decide, tb5 80 (by decide +kernel) rfl, tb5 81 (by decide +kernel) rfl, tb5 82 (by decide +kernel) rfl⟩
theorem ln_PlateRoundLaw_149 : LV RL 149 12 mX12_taken := ⟨by decide, tb7 139 (by decide +kernel) rfl, tb7 140 (by decide +kernel) rfl, tb7 141 (by decide +kernel) rfl⟩
theorem lg_self (x : Int64) : lg_cmp x x = 0 := by
  unfold lg_cmp
  simp
def gx (N k : Nat) (S : SH) (a1 a2 a3 a4 : Int32) (x : DY) : Option (Option Value × SH × DY) := match k with
  | 0 => (f_X11_dish N S 40 ((a1)) ((a2)) ((a3)) x).map (fun r => (some (.int r.1), S, r.2))
  | 1 => (f_X11_price N S 40 ((a1)) ((a2)) x).map (fun r => (some (.int r.1), S, r.2))
  | 2 => (f_X11_lay N S 40 ((a1)) x).map (fun r => (some (.int r.1), S, r.2))
  | 3 => (f_X11_plate N S 40 ((a1)) ((a2)) x).map (fun r => (some (.int r), S, x))
  | 4 => (f_X11_at N S 40 ((a1)) x).map (fun r => (some (.int r), S, x))
  | 5 => (f_X11_gone N S 40 ((a1)) x).map (fun r => (some (.int r.1), S, r.2))
  | 6 => (f_X11_seat N S 40 ((a1)) x).map (fun r => (some (.int r.1), S, r.2))
  | 7 => (f_X11_guest N S 40 ((a1)) ((a2)) ((a3)) x).map (fun r => (some (.int r.1), S, r.2))
  | 8 => (f_X11_seatTold N S 40 ((a1)) ((a2)) x).map (fun r => (some (.int r), S, x))
  | 9 => (f_X11_liking N S 40 ((a1)) ((a2)) x).map (fun r => (some (.long r), S, x))
  | 10 => (f_X11_pays N S 40 ((a1)) ((a2)) x).map (fun r => (some (.int r.1), S, r.2))
  | 11 => (f_X11_putBack N S 40 ((a1)) x).map (fun r => (some (.int r.1), S, r.2))
  | 12 => (f_X11_feed N S 40 ((a1)) (((((a2).toInt64) <<< ((32 : Int32).toInt64 &&& 63)) ||| (((a3).toInt64) &&& 4294967295))) x).map (fun r => (some (.int r.1), S, r.2))
  | 13 => (fA_X11_text N S 40  x).map (fun r => (some (.int r.1), r.2.1, r.2.2))
  | 14 => (fA_X11_force N S 40 ((a1)) x).map (fun r => (some (.int r.1), r.2.1, r.2.2))
  | 15 => (f_X11_says N S 40 ((a1)) ((a2)) ((a3)) x).map (fun r => (some (.long r.1), S, r.2))
  | 16 => (f_X11_tick N S 40 ((a1)) x).map (fun r => (some (.int r.1), S, r.2))
  | 17 => (f_X11_order N S 40 ((a1)) ((a2)) x).map (fun r => (some (.int r.1), S, r.2))
  | 18 => (f_X11_lane N S 40 ((a1)) x).map (fun r => (some (.int r), S, x))
  | 19 => (f_X11_empties N S 40 ((a1)) ((a2)) x).map (fun r => (some (.int r), S, x))
  | 20 => (f_X11_waste N S 40 ((a1)) x).map (fun r => (some (.int r.1), S, r.2))
  | 21 => (f_X11_ahead N S 40 ((a1)) ((a2)) ((a3)) x).map (fun r => (some (.int r.1), S, r.2))
  | 22 => (f_X11_worth N S 40 ((a1)) ((a2)) x).map (fun r => (some (.long r.1), S, r.2))
  | 23 => (f_X11_piece N S 40 ((a1)) ((a2)) x).map (fun r => (some (.int r.1), S, r.2))
  | 24 => (f_X11_cut N S 40 ((a1)) ((a2)) x).map (fun r => (some (.int r.1), S, r.2))
  | 25 => (f_X11_count N S 40 ((a1)) x).map (fun r => (some (.int r), S, x))
  | 26 => (f_X11_sheet N S 40 ((a1)) ((a2)) ((a3)) x).map (fun r => (some (.int r.1), S, r.2))
  | 27 => (f_X11_cell N S 40 ((a1)) ((a2)) ((a3)) x).map (fun r => (some (.int r.1), S, r.2))
  | 28 => (f_X11_lays N S 40 ((a1)) ((a2)) ((a3)) ((a4)) x).map (fun r => (some (.int r.1), S, r.2))
  | 29 => (f_X11_taken N S 40 ((a1)) ((a2)) x).map (fun r => (some (.int r), S, x))
  | _ => none
def gm (N k : Nat) (S : SH) (a1 a2 a3 a4 : Int32) (x : DY) : Option (Option Value × DY) := match k with
  | 0 => (f_X12_dish N S 40 ((a1)) ((a2)) ((a3)) x).map (fun r => (some (.int r.1), r.2))
  | 1 => (f_X12_price N S 40 ((a1)) ((a2)) x).map (fun r => (some (.int r.1), r.2))
  | 2 => (f_X12_lay N S 40 ((a1)) x).map (fun r => (some (.int r.1), r.2))
  | 3 => (f_X12_plate N S 40 ((a1)) ((a2)) x).map (fun r => (some (.int r), x))
  | 4 => (f_X12_at N S 40 ((a1)) x).map (fun r => (some (.int r), x))
  | 5 => (f_X12_gone N S 40 ((a1)) x).map (fun r => (some (.int r.1), r.2))
  | 6 => (f_X12_seat N S 40 ((a1)) x).map (fun r => (some (.int r.1), r.2))
  | 7 => (f_X12_guest N S 40 ((a1)) ((a2)) ((a3)) x).map (fun r => (some (.int r.1), r.2))
  | 8 => (f_X12_seatTold N S 40 ((a1)) ((a2)) x).map (fun r => (some (.int r), x))
  | 9 => (f_X12_liking N S 40 ((a1)) ((a2)) x).map (fun r => (some (.long r), x))
  | 10 => (f_X12_pays N S 40 ((a1)) ((a2)) x).map (fun r => (some (.int r.1), r.2))
  | 11 => (f_X12_putBack N S 40 ((a1)) x).map (fun r => (some (.int r.1), r.2))
  | 12 => (f_X12_feed N S 40 ((a1)) (((((a2).toInt64) <<< ((32 : Int32).toInt64 &&& 63)) ||| (((a3).toInt64) &&& 4294967295))) x).map (fun r => (some (.int r.1), r.2))
  | 13 => (f_X12_text N S 40  x).map (fun r => (some (.int r.1), r.2))
  | 14 => (f_X12_force N S 40 ((a1)) x).map (fun r => (some (.int r.1), r.2))
  | 15 => (f_X12_says N S 40 ((a1)) ((a2)) ((a3)) x).map (fun r => (some (.long r.1), r.2))
  | 16 => (f_X12_tick N S 40 ((a1)) x).map (fun r => (some (.int r.1), r.2))
  | 17 => (f_X12_order N S 40 ((a1)) ((a2)) x).map (fun r => (some (.int r.1), r.2))
  | 18 => (f_X12_lane N S 40 ((a1)) x).map (fun r => (some (.int r), x))
  | 19 => (f_X12_empties N S 40 ((a1)) ((a2)) x).map (fun r => (some (.int r), x))
  | 20 => (f_X12_waste N S 40 ((a1)) x).map (fun r => (some (.int r.1), r.2))
  | 21 => (f_X12_ahead_ N S 40 ((a1)) ((a2)) ((a3)) x).map (fun r => (some (.int r.1), r.2))
  | 22 => (f_X12_worth N S 40 ((a1)) ((a2)) x).map (fun r => (some (.long r.1), r.2))
  | 23 => (f_X12_piece N S 40 ((a1)) ((a2)) x).map (fun r => (some (.int r.1), r.2))
  | 24 => (f_X12_cut N S 40 ((a1)) ((a2)) x).map (fun r => (some (.int r.1), r.2))
  | 25 => (f_X12_count N S 40 ((a1)) x).map (fun r => (some (.int r), x))
  | 26 => (f_X12_sheet N S 40 ((a1)) ((a2)) ((a3)) x).map (fun r => (some (.int r.1), r.2))
  | 27 => (f_X12_cell N S 40 ((a1)) ((a2)) ((a3)) x).map (fun r => (some (.int r.1), r.2))
  | 28 => (f_X12_lays N S 40 ((a1)) ((a2)) ((a3)) ((a4)) x).map (fun r => (some (.int r.1), r.2))
  | 29 => (f_X12_taken N S 40 ((a1)) ((a2)) x).map (fun r => (some (.int r), x))
  | _ => none
/-- WHAT IS OWED: R holds of the two graphs behind c calls; every call keeps it, and both answer alike -/
def LAWOK (N : Nat) (R : Nat → SH → DY → SH → DY → Prop) : Prop :=
  (∀ c Sx xx Sm xm, R c Sx xx Sm xm → WT Sx ∧ TY Sx 40 11 ∧ WT Sm ∧ TY Sm 40 12) ∧
  ∀ c Sx xx Sm xm k a1 a2 a3 a4, c < 512 → k < 30 → R c Sx xx Sm xm → ∃ v S' x' y', gx N k Sx a1 a2 a3 a4 xx = some (v, S', x') ∧ gm N k Sm a1 a2 a3 a4 xm = some (v, y') ∧ R (c + 1) S' x' Sm y'
section LAWL
variable {p : Program} {l : Launch} {e : Env} {s : State} {m : MethodId} {below : List Frame} {meth : Method} {c : Code} {D : va_G} {ty : Nat → ClassId} {σ0 : Nat → Nat} {b L : Nat} {xs : Nat → Int32} {N : Nat} {R : Nat → SH → DY → SH → DY → Prop}
set_option maxHeartbeats 2000000 in
theorem law_case0 (C : LC p s m meth c b L xs D ty σ0) (hL : L ≤ 2561) (hO : LAWOK N R) {cc i kc ks : Nat} {Sx Sm : SH} {xx xm : DY} (hc : cc < 512) (hR : R cc Sx xx Sm xm) (hi : i + 5 ≤ L) (hkc : kc + 4 ≤ 600000) (hks : ks + 483 ≤ 7302250)
    (back : ∀ S' x' y', R (cc + 1) S' x' Sm y' → LW p l e s m below meth c D ty σ0 b (kc + 4) (ks + 483) 1159 [some (.ref 0), some (.ref 1), some (.ref 2), some (.int (nI i))] [] S' x' Sm y') : LW p l e s m below meth c D ty σ0 b kc ks 176 [some (.ref 0), some (.ref 1), some (.ref 2), some (.int (nI i))] [] Sx xx Sm xm := by
  obtain ⟨v, S', x', y', hgx, hgm, hR'⟩ := hO.2 cc Sx xx Sm xm 0 (xs (nI (i + 1)).toNatClampNeg) (xs (nI (i + 2)).toNatClampNeg) (xs (nI (i + 3)).toNatClampNeg) (xs (nI (i + 4)).toNatClampNeg) hc (by decide) hR
  obtain ⟨r1, hf1, he1⟩ := Option.map_eq_some_iff.mp hgx
  obtain ⟨r2, hf2, he2⟩ := Option.map_eq_some_iff.mp hgm
  cases he1
  have e1 := Value.int.inj (Option.some.inj (congrArg Prod.fst he2))
  have e2 := congrArg Prod.snd he2
  dsimp only at e1 e2
  subst e2
  obtain ⟨hWx, hTx, hWm, hTm⟩ := hO.1 cc Sx xx Sm xm hR
  refine LW.pure (pc' := 177) (st' := [.ref 1]) (fun hl k => lv_aload_n C.hx C.hb dL_law_176 rfl (hl.get (j := 1) (v := .ref 1) rfl) k) ?_
  refine LW.pure (pc' := 178) (st' := [.ref 0, .ref 1]) (fun hl k => lv_aload_n C.hx C.hb dL_law_177 rfl (hl.get (j := 0) (v := .ref 0) rfl) k) ?_
  refine LW.pure (pc' := 179) (st' := [.int (nI i), .ref 0, .ref 1]) (fun hl k => lv_iload_n C.hx C.hb dL_law_178 rfl (hl.get (j := 3) (v := .int (nI i)) rfl) k) ?_
  refine LW.pure (pc' := 180) (st' := [.int 1, .int (nI i), .ref 0, .ref 1]) (fun hl k => lv_iconst C.hx C.hb dL_law_179 (by decide) k) ?_
  refine LW.pure (pc' := 181) (st' := [.int (nI (i + 1)), .ref 0, .ref 1]) (fun hl k => lv_iadd C.hx C.hb dL_law_180 (by rw [show nI i + 1 = nI (i + 1) from nI_add i 1]; exact k)) ?_
  refine LW.sld (pc' := 182) C (vp_in_nI (by omega) (by omega)) dL_law_181 rfl ?_
  refine LW.pure (pc' := 183) (st' := [.ref 0, .int (xs (nI (i + 1)).toNatClampNeg), .ref 1]) (fun hl k => lv_aload_n C.hx C.hb dL_law_182 rfl (hl.get (j := 0) (v := .ref 0) rfl) k) ?_
  refine LW.pure (pc' := 184) (st' := [.int (nI i), .ref 0, .int (xs (nI (i + 1)).toNatClampNeg), .ref 1]) (fun hl k => lv_iload_n C.hx C.hb dL_law_183 rfl (hl.get (j := 3) (v := .int (nI i)) rfl) k) ?_
  refine LW.pure (pc' := 185) (st' := [.int 2, .int (nI i), .ref 0, .int (xs (nI (i + 1)).toNatClampNeg), .ref 1]) (fun hl k => lv_iconst C.hx C.hb dL_law_184 (by decide) k) ?_
  refine LW.pure (pc' := 186) (st' := [.int (nI (i + 2)), .ref 0, .int (xs (nI (i + 1)).toNatClampNeg), .ref 1]) (fun hl k => lv_iadd C.hx C.hb dL_law_185 (by rw [show nI i + 2 = nI (i + 2) from nI_add i 2]; exact k)) ?_
  refine LW.sld (pc' := 187) C (vp_in_nI (by omega) (by omega)) dL_law_186 rfl ?_
  refine LW.pure (pc' := 188) (st' := [.ref 0, .int (xs (nI (i + 2)).toNatClampNeg), .int (xs (nI (i + 1)).toNatClampNeg), .ref 1]) (fun hl k => lv_aload_n C.hx C.hb dL_law_187 rfl (hl.get (j := 0) (v := .ref 0) rfl) k) ?_
  refine LW.pure (pc' := 189) (st' := [.int (nI i), .ref 0, .int (xs (nI (i + 2)).toNatClampNeg), .int (xs (nI (i + 1)).toNatClampNeg), .ref 1]) (fun hl k => lv_iload_n C.hx C.hb dL_law_188 rfl (hl.get (j := 3) (v := .int (nI i)) rfl) k) ?_
  refine LW.pure (pc' := 190) (st' := [.int 3, .int (nI i), .ref 0, .int (xs (nI (i + 2)).toNatClampNeg), .int (xs (nI (i + 1)).toNatClampNeg), .ref 1]) (fun hl k => lv_iconst C.hx C.hb dL_law_189 (by decide) k) ?_
  refine LW.pure (pc' := 191) (st' := [.int (nI (i + 3)), .ref 0, .int (xs (nI (i + 2)).toNatClampNeg), .int (xs (nI (i + 1)).toNatClampNeg), .ref 1]) (fun hl k => lv_iadd C.hx C.hb dL_law_190 (by rw [show nI i + 3 = nI (i + 3) from nI_add i 3]; exact k)) ?_
  refine LW.sld (pc' := 192) C (vp_in_nI (by omega) (by omega)) dL_law_191 rfl ?_
  refine lw_callX (M' := mX11_dish) (As := [.int (xs (nI (i + 1)).toNatClampNeg), .int (xs (nI (i + 2)).toNatClampNeg), .int (xs (nI (i + 3)).toNatClampNeg)]) (st := []) (mc := 0) (ms := 0) (dd := 200) (pc' := 195) C ln_PlateRoundLaw_21 lb_X11_dish (by decide) (t_X11_dish (N := N) (d := 200) hWx (by decide) hTx r1 hf1) (by simp [nR]) hTx (by simp [nR]) (Nat.le_of_ble_eq_true rfl) rfl dL_law_192 rfl (by omega) (by omega) (fun r S' x' q v hv => by rw [q.1] at hv; cases hv; trivial) (fun r S' x' q _ => ?_)
  obtain ⟨rfl, rfl, rfl⟩ := q
  show LW p l e s m below meth c D ty σ0 b (kc + 0) (ks + 0) 195 [some (.ref 0), some (.ref 1), some (.ref 2), some (.int (nI i))] [.int r1.1] _ _ _ _
  refine LW.pure (pc' := 196) (st' := [.ref 2, .int r1.1]) (fun hl k => lv_aload_n C.hx C.hb dL_law_195 rfl (hl.get (j := 2) (v := .ref 2) rfl) k) ?_
  refine LW.pure (pc' := 197) (st' := [.ref 0, .ref 2, .int r1.1]) (fun hl k => lv_aload_n C.hx C.hb dL_law_196 rfl (hl.get (j := 0) (v := .ref 0) rfl) k) ?_
  refine LW.pure (pc' := 198) (st' := [.int (nI i), .ref 0, .ref 2, .int r1.1]) (fun hl k => lv_iload_n C.hx C.hb dL_law_197 rfl (hl.get (j := 3) (v := .int (nI i)) rfl) k) ?_
  refine LW.pure (pc' := 199) (st' := [.int 1, .int (nI i), .ref 0, .ref 2, .int r1.1]) (fun hl k => lv_iconst C.hx C.hb dL_law_198 (by decide) k) ?_
  refine LW.pure (pc' := 200) (st' := [.int (nI (i + 1)), .ref 0, .ref 2, .int r1.1]) (fun hl k => lv_iadd C.hx C.hb dL_law_199 (by rw [show nI i + 1 = nI (i + 1) from nI_add i 1]; exact k)) ?_
  refine LW.sld (pc' := 201) C (vp_in_nI (by omega) (by omega)) dL_law_200 rfl ?_
  refine LW.pure (pc' := 202) (st' := [.ref 0, .int (xs (nI (i + 1)).toNatClampNeg), .ref 2, .int r1.1]) (fun hl k => lv_aload_n C.hx C.hb dL_law_201 rfl (hl.get (j := 0) (v := .ref 0) rfl) k) ?_
  refine LW.pure (pc' := 203) (st' := [.int (nI i), .ref 0, .int (xs (nI (i + 1)).toNatClampNeg), .ref 2, .int r1.1]) (fun hl k => lv_iload_n C.hx C.hb dL_law_202 rfl (hl.get (j := 3) (v := .int (nI i)) rfl) k) ?_
  refine LW.pure (pc' := 204) (st' := [.int 2, .int (nI i), .ref 0, .int (xs (nI (i + 1)).toNatClampNeg), .ref 2, .int r1.1]) (fun hl k => lv_iconst C.hx C.hb dL_law_203 (by decide) k) ?_
  refine LW.pure (pc' := 205) (st' := [.int (nI (i + 2)), .ref 0, .int (xs (nI (i + 1)).toNatClampNeg), .ref 2, .int r1.1]) (fun hl k => lv_iadd C.hx C.hb dL_law_204 (by rw [show nI i + 2 = nI (i + 2) from nI_add i 2]; exact k)) ?_
  refine LW.sld (pc' := 206) C (vp_in_nI (by omega) (by omega)) dL_law_205 rfl ?_
  refine LW.pure (pc' := 207) (st' := [.ref 0, .int (xs (nI (i + 2)).toNatClampNeg), .int (xs (nI (i + 1)).toNatClampNeg), .ref 2, .int r1.1]) (fun hl k => lv_aload_n C.hx C.hb dL_law_206 rfl (hl.get (j := 0) (v := .ref 0) rfl) k) ?_
  refine LW.pure (pc' := 208) (st' := [.int (nI i), .ref 0, .int (xs (nI (i + 2)).toNatClampNeg), .int (xs (nI (i + 1)).toNatClampNeg), .ref 2, .int r1.1]) (fun hl k => lv_iload_n C.hx C.hb dL_law_207 rfl (hl.get (j := 3) (v := .int (nI i)) rfl) k) ?_
  refine LW.pure (pc' := 209) (st' := [.int 3, .int (nI i), .ref 0, .int (xs (nI (i + 2)).toNatClampNeg), .int (xs (nI (i + 1)).toNatClampNeg), .ref 2, .int r1.1]) (fun hl k => lv_iconst C.hx C.hb dL_law_208 (by decide) k) ?_
  refine LW.pure (pc' := 210) (st' := [.int (nI (i + 3)), .ref 0, .int (xs (nI (i + 2)).toNatClampNeg), .int (xs (nI (i + 1)).toNatClampNeg), .ref 2, .int r1.1]) (fun hl k => lv_iadd C.hx C.hb dL_law_209 (by rw [show nI i + 3 = nI (i + 3) from nI_add i 3]; exact k)) ?_
  refine LW.sld (pc' := 211) C (vp_in_nI (by omega) (by omega)) dL_law_210 rfl ?_
  refine lw_callM (M' := mX12_dish) (As := [.int (xs (nI (i + 1)).toNatClampNeg), .int (xs (nI (i + 2)).toNatClampNeg), .int (xs (nI (i + 3)).toNatClampNeg)]) (st := [.int r1.1]) (mc := 0) (ms := 0) (dd := 200) (pc' := 214) C ln_PlateRoundLaw_25 lb_X12_dish (by decide) (t_X12_dish (N := N) (d := 200) hWm (by decide) hTm r2 hf2) (by simp [nR]) hTm (by simp [nR]) (Nat.le_of_ble_eq_true rfl) rfl dL_law_211 rfl (by omega) (by omega) (fun r S' x' q v hv => by rw [q.1] at hv; cases hv; trivial) (fun r S' x' q _ => ?_)
  obtain ⟨rfl, rfl, rfl⟩ := q
  show LW p l e s m below meth c D ty σ0 b ((kc + 0) + 0) ((ks + 0) + 0) 214 [some (.ref 0), some (.ref 1), some (.ref 2), some (.int (nI i))] [.int r2.1, .int r1.1] _ _ _ _
  refine LW.br (c1 := r1.1 = r2.1) (pc1 := 1159) (pc' := 217) (st' := []) (fun kt kf => lv_icmp_eq C.hx C.hb dL_law_214 (by decide) kt kf) (fun _ => ?_) (fun h => absurd e1.symm h)
  exact LW.widen (by omega) (by omega) (back _ _ _ hR')
set_option maxHeartbeats 2000000 in
theorem law_case1 (C : LC p s m meth c b L xs D ty σ0) (hL : L ≤ 2561) (hO : LAWOK N R) {cc i kc ks : Nat} {Sx Sm : SH} {xx xm : DY} (hc : cc < 512) (hR : R cc Sx xx Sm xm) (hi : i + 5 ≤ L) (hkc : kc + 4 ≤ 600000) (hks : ks + 483 ≤ 7302250)
    (back : ∀ S' x' y', R (cc + 1) S' x' Sm y' → LW p l e s m below meth c D ty σ0 b (kc + 4) (ks + 483) 1159 [some (.ref 0), some (.ref 1), some (.ref 2), some (.int (nI i))] [] S' x' Sm y') : LW p l e s m below meth c D ty σ0 b kc ks 219 [some (.ref 0), some (.ref 1), some (.ref 2), some (.int (nI i))] [] Sx xx Sm xm := by
  obtain ⟨v, S', x', y', hgx, hgm, hR'⟩ := hO.2 cc Sx xx Sm xm 1 (xs (nI (i + 1)).toNatClampNeg) (xs (nI (i + 2)).toNatClampNeg) (xs (nI (i + 3)).toNatClampNeg) (xs (nI (i + 4)).toNatClampNeg) hc (by decide) hR
  obtain ⟨r1, hf1, he1⟩ := Option.map_eq_some_iff.mp hgx
  obtain ⟨r2, hf2, he2⟩ := Option.map_eq_some_iff.mp hgm
  cases he1
  have e1 := Value.int.inj (Option.some.inj (congrArg Prod.fst he2))
  have e2 := congrArg Prod.snd he2
  dsimp only at e1 e2
  subst e2
  obtain ⟨hWx, hTx, hWm, hTm⟩ := hO.1 cc Sx xx Sm xm hR
  refine LW.pure (pc' := 220) (st' := [.ref 1]) (fun hl k => lv_aload_n C.hx C.hb dL_law_219 rfl (hl.get (j := 1) (v := .ref 1) rfl) k) ?_
  refine LW.pure (pc' := 221) (st' := [.ref 0, .ref 1]) (fun hl k => lv_aload_n C.hx C.hb dL_law_220 rfl (hl.get (j := 0) (v := .ref 0) rfl) k) ?_
  refine LW.pure (pc' := 222) (st' := [.int (nI i), .ref 0, .ref 1]) (fun hl k => lv_iload_n C.hx C.hb dL_law_221 rfl (hl.get (j := 3) (v := .int (nI i)) rfl) k) ?_
  refine LW.pure (pc' := 223) (st' := [.int 1, .int (nI i), .ref 0, .ref 1]) (fun hl k => lv_iconst C.hx C.hb dL_law_222 (by decide) k) ?_
  refine LW.pure (pc' := 224) (st' := [.int (nI (i + 1)), .ref 0, .ref 1]) (fun hl k => lv_iadd C.hx C.hb dL_law_223 (by rw [show nI i + 1 = nI (i + 1) from nI_add i 1]; exact k)) ?_
  refine LW.sld (pc' := 225) C (vp_in_nI (by omega) (by omega)) dL_law_224 rfl ?_
  refine LW.pure (pc' := 226) (st' := [.ref 0, .int (xs (nI (i + 1)).toNatClampNeg), .ref 1]) (fun hl k => lv_aload_n C.hx C.hb dL_law_225 rfl (hl.get (j := 0) (v := .ref 0) rfl) k) ?_
  refine LW.pure (pc' := 227) (st' := [.int (nI i), .ref 0, .int (xs (nI (i + 1)).toNatClampNeg), .ref 1]) (fun hl k => lv_iload_n C.hx C.hb dL_law_226 rfl (hl.get (j := 3) (v := .int (nI i)) rfl) k) ?_
  refine LW.pure (pc' := 228) (st' := [.int 2, .int (nI i), .ref 0, .int (xs (nI (i + 1)).toNatClampNeg), .ref 1]) (fun hl k => lv_iconst C.hx C.hb dL_law_227 (by decide) k) ?_
  refine LW.pure (pc' := 229) (st' := [.int (nI (i + 2)), .ref 0, .int (xs (nI (i + 1)).toNatClampNeg), .ref 1]) (fun hl k => lv_iadd C.hx C.hb dL_law_228 (by rw [show nI i + 2 = nI (i + 2) from nI_add i 2]; exact k)) ?_
  refine LW.sld (pc' := 230) C (vp_in_nI (by omega) (by omega)) dL_law_229 rfl ?_
  refine lw_callX (M' := mX11_price) (As := [.int (xs (nI (i + 1)).toNatClampNeg), .int (xs (nI (i + 2)).toNatClampNeg)]) (st := []) (mc := 0) (ms := 0) (dd := 200) (pc' := 233) C ln_PlateRoundLaw_26 lb_X11_price (by decide) (t_X11_price (N := N) (d := 200) hWx (by decide) hTx r1 hf1) (by simp [nR]) hTx (by simp [nR]) (Nat.le_of_ble_eq_true rfl) rfl dL_law_230 rfl (by omega) (by omega) (fun r S' x' q v hv => by rw [q.1] at hv; cases hv; trivial) (fun r S' x' q _ => ?_)
  obtain ⟨rfl, rfl, rfl⟩ := q
  show LW p l e s m below meth c D ty σ0 b (kc + 0) (ks + 0) 233 [some (.ref 0), some (.ref 1), some (.ref 2), some (.int (nI i))] [.int r1.1] _ _ _ _
  refine LW.pure (pc' := 234) (st' := [.ref 2, .int r1.1]) (fun hl k => lv_aload_n C.hx C.hb dL_law_233 rfl (hl.get (j := 2) (v := .ref 2) rfl) k) ?_
  refine LW.pure (pc' := 235) (st' := [.ref 0, .ref 2, .int r1.1]) (fun hl k => lv_aload_n C.hx C.hb dL_law_234 rfl (hl.get (j := 0) (v := .ref 0) rfl) k) ?_
  refine LW.pure (pc' := 236) (st' := [.int (nI i), .ref 0, .ref 2, .int r1.1]) (fun hl k => lv_iload_n C.hx C.hb dL_law_235 rfl (hl.get (j := 3) (v := .int (nI i)) rfl) k) ?_
  refine LW.pure (pc' := 237) (st' := [.int 1, .int (nI i), .ref 0, .ref 2, .int r1.1]) (fun hl k => lv_iconst C.hx C.hb dL_law_236 (by decide) k) ?_
  refine LW.pure (pc' := 238) (st' := [.int (nI (i + 1)), .ref 0, .ref 2, .int r1.1]) (fun hl k => lv_iadd C.hx C.hb dL_law_237 (by rw [show nI i + 1 = nI (i + 1) from nI_add i 1]; exact k)) ?_
  refine LW.sld (pc' := 239) C (vp_in_nI (by omega) (by omega)) dL_law_238 rfl ?_
  refine LW.pure (pc' := 240) (st' := [.ref 0, .int (xs (nI (i + 1)).toNatClampNeg), .ref 2, .int r1.1]) (fun hl k => lv_aload_n C.hx C.hb dL_law_239 rfl (hl.get (j := 0) (v := .ref 0) rfl) k) ?_
  refine LW.pure (pc' := 241) (st' := [.int (nI i), .ref 0, .int (xs (nI (i + 1)).toNatClampNeg), .ref 2, .int r1.1]) (fun hl k => lv_iload_n C.hx C.hb dL_law_240 rfl (hl.get (j := 3) (v := .int (nI i)) rfl) k) ?_
  refine LW.pure (pc' := 242) (st' := [.int 2, .int (nI i), .ref 0, .int (xs (nI (i + 1)).toNatClampNeg), .ref 2, .int r1.1]) (fun hl k => lv_iconst C.hx C.hb dL_law_241 (by decide) k) ?_
  refine LW.pure (pc' := 243) (st' := [.int (nI (i + 2)), .ref 0, .int (xs (nI (i + 1)).toNatClampNeg), .ref 2, .int r1.1]) (fun hl k => lv_iadd C.hx C.hb dL_law_242 (by rw [show nI i + 2 = nI (i + 2) from nI_add i 2]; exact k)) ?_
  refine LW.sld (pc' := 244) C (vp_in_nI (by omega) (by omega)) dL_law_243 rfl ?_
  refine lw_callM (M' := mX12_price) (As := [.int (xs (nI (i + 1)).toNatClampNeg), .int (xs (nI (i + 2)).toNatClampNeg)]) (st := [.int r1.1]) (mc := 0) (ms := 0) (dd := 200) (pc' := 247) C ln_PlateRoundLaw_30 lb_X12_price (by decide) (t_X12_price (N := N) (d := 200) hWm (by decide) hTm r2 hf2) (by simp [nR]) hTm (by simp [nR]) (Nat.le_of_ble_eq_true rfl) rfl dL_law_244 rfl (by omega) (by omega) (fun r S' x' q v hv => by rw [q.1] at hv; cases hv; trivial) (fun r S' x' q _ => ?_)
  obtain ⟨rfl, rfl, rfl⟩ := q
  show LW p l e s m below meth c D ty σ0 b ((kc + 0) + 0) ((ks + 0) + 0) 247 [some (.ref 0), some (.ref 1), some (.ref 2), some (.int (nI i))] [.int r2.1, .int r1.1] _ _ _ _
  refine LW.br (c1 := r1.1 = r2.1) (pc1 := 1159) (pc' := 250) (st' := []) (fun kt kf => lv_icmp_eq C.hx C.hb dL_law_247 (by decide) kt kf) (fun _ => ?_) (fun h => absurd e1.symm h)
  exact LW.widen (by omega) (by omega) (back _ _ _ hR')
set_option maxHeartbeats 2000000 in
theorem law_case2 (C : LC p s m meth c b L xs D ty σ0) (hL : L ≤ 2561) (hO : LAWOK N R) {cc i kc ks : Nat} {Sx Sm : SH} {xx xm : DY} (hc : cc < 512) (hR : R cc Sx xx Sm xm) (hi : i + 5 ≤ L) (hkc : kc + 4 ≤ 600000) (hks : ks + 483 ≤ 7302250)
    (back : ∀ S' x' y', R (cc + 1) S' x' Sm y' → LW p l e s m below meth c D ty σ0 b (kc + 4) (ks + 483) 1159 [some (.ref 0), some (.ref 1), some (.ref 2), some (.int (nI i))] [] S' x' Sm y') : LW p l e s m below meth c D ty σ0 b kc ks 252 [some (.ref 0), some (.ref 1), some (.ref 2), some (.int (nI i))] [] Sx xx Sm xm := by
  obtain ⟨v, S', x', y', hgx, hgm, hR'⟩ := hO.2 cc Sx xx Sm xm 2 (xs (nI (i + 1)).toNatClampNeg) (xs (nI (i + 2)).toNatClampNeg) (xs (nI (i + 3)).toNatClampNeg) (xs (nI (i + 4)).toNatClampNeg) hc (by decide) hR
  obtain ⟨r1, hf1, he1⟩ := Option.map_eq_some_iff.mp hgx
  obtain ⟨r2, hf2, he2⟩ := Option.map_eq_some_iff.mp hgm
  cases he1
  have e1 := Value.int.inj (Option.some.inj (congrArg Prod.fst he2))
  have e2 := congrArg Prod.snd he2
  dsimp only at e1 e2
  subst e2
  obtain ⟨hWx, hTx, hWm, hTm⟩ := hO.1 cc Sx xx Sm xm hR
  refine LW.pure (pc' := 253) (st' := [.ref 1]) (fun hl k => lv_aload_n C.hx C.hb dL_law_252 rfl (hl.get (j := 1) (v := .ref 1) rfl) k) ?_
  refine LW.pure (pc' := 254) (st' := [.ref 0, .ref 1]) (fun hl k => lv_aload_n C.hx C.hb dL_law_253 rfl (hl.get (j := 0) (v := .ref 0) rfl) k) ?_
  refine LW.pure (pc' := 255) (st' := [.int (nI i), .ref 0, .ref 1]) (fun hl k => lv_iload_n C.hx C.hb dL_law_254 rfl (hl.get (j := 3) (v := .int (nI i)) rfl) k) ?_
  refine LW.pure (pc' := 256) (st' := [.int 1, .int (nI i), .ref 0, .ref 1]) (fun hl k => lv_iconst C.hx C.hb dL_law_255 (by decide) k) ?_
  refine LW.pure (pc' := 257) (st' := [.int (nI (i + 1)), .ref 0, .ref 1]) (fun hl k => lv_iadd C.hx C.hb dL_law_256 (by rw [show nI i + 1 = nI (i + 1) from nI_add i 1]; exact k)) ?_
  refine LW.sld (pc' := 258) C (vp_in_nI (by omega) (by omega)) dL_law_257 rfl ?_
  refine lw_callX (M' := mX11_lay) (As := [.int (xs (nI (i + 1)).toNatClampNeg)]) (st := []) (mc := 0) (ms := 0) (dd := 200) (pc' := 261) C ln_PlateRoundLaw_31 lb_X11_lay (by decide) (t_X11_lay (N := N) (d := 200) hWx (by decide) hTx r1 hf1) (by simp [nR]) hTx (by simp [nR]) (Nat.le_of_ble_eq_true rfl) rfl dL_law_258 rfl (by omega) (by omega) (fun r S' x' q v hv => by rw [q.1] at hv; cases hv; trivial) (fun r S' x' q _ => ?_)
  obtain ⟨rfl, rfl, rfl⟩ := q
  show LW p l e s m below meth c D ty σ0 b (kc + 0) (ks + 0) 261 [some (.ref 0), some (.ref 1), some (.ref 2), some (.int (nI i))] [.int r1.1] _ _ _ _
  refine LW.pure (pc' := 262) (st' := [.ref 2, .int r1.1]) (fun hl k => lv_aload_n C.hx C.hb dL_law_261 rfl (hl.get (j := 2) (v := .ref 2) rfl) k) ?_
  refine LW.pure (pc' := 263) (st' := [.ref 0, .ref 2, .int r1.1]) (fun hl k => lv_aload_n C.hx C.hb dL_law_262 rfl (hl.get (j := 0) (v := .ref 0) rfl) k) ?_
  refine LW.pure (pc' := 264) (st' := [.int (nI i), .ref 0, .ref 2, .int r1.1]) (fun hl k => lv_iload_n C.hx C.hb dL_law_263 rfl (hl.get (j := 3) (v := .int (nI i)) rfl) k) ?_
  refine LW.pure (pc' := 265) (st' := [.int 1, .int (nI i), .ref 0, .ref 2, .int r1.1]) (fun hl k => lv_iconst C.hx C.hb dL_law_264 (by decide) k) ?_
  refine LW.pure (pc' := 266) (st' := [.int (nI (i + 1)), .ref 0, .ref 2, .int r1.1]) (fun hl k => lv_iadd C.hx C.hb dL_law_265 (by rw [show nI i + 1 = nI (i + 1) from nI_add i 1]; exact k)) ?_
  refine LW.sld (pc' := 267) C (vp_in_nI (by omega) (by omega)) dL_law_266 rfl ?_
  refine lw_callM (M' := mX12_lay) (As := [.int (xs (nI (i + 1)).toNatClampNeg)]) (st := [.int r1.1]) (mc := 0) (ms := 0) (dd := 200) (pc' := 270) C ln_PlateRoundLaw_35 lb_X12_lay (by decide) (t_X12_lay (N := N) (d := 200) hWm (by decide) hTm r2 hf2) (by simp [nR]) hTm (by simp [nR]) (Nat.le_of_ble_eq_true rfl) rfl dL_law_267 rfl (by omega) (by omega) (fun r S' x' q v hv => by rw [q.1] at hv; cases hv; trivial) (fun r S' x' q _ => ?_)
  obtain ⟨rfl, rfl, rfl⟩ := q
  show LW p l e s m below meth c D ty σ0 b ((kc + 0) + 0) ((ks + 0) + 0) 270 [some (.ref 0), some (.ref 1), some (.ref 2), some (.int (nI i))] [.int r2.1, .int r1.1] _ _ _ _
  refine LW.br (c1 := r1.1 = r2.1) (pc1 := 1159) (pc' := 273) (st' := []) (fun kt kf => lv_icmp_eq C.hx C.hb dL_law_270 (by decide) kt kf) (fun _ => ?_) (fun h => absurd e1.symm h)
  exact LW.widen (by omega) (by omega) (back _ _ _ hR')
set_option maxHeartbeats 2000000 in
theorem law_case3 (C : LC p s m meth c b L xs D ty σ0) (hL : L ≤ 2561) (hO : LAWOK N R) {cc i kc ks : Nat} {Sx Sm : SH} {xx xm : DY} (hc : cc < 512) (hR : R cc Sx xx Sm xm) (hi : i + 5 ≤ L) (hkc : kc + 4 ≤ 600000) (hks : ks + 483 ≤ 7302250)
    (back : ∀ S' x' y', R (cc + 1) S' x' Sm y' → LW p l e s m below meth c D ty σ0 b (kc + 4) (ks + 483) 1159 [some (.ref 0), some (.ref 1), some (.ref 2), some (.int (nI i))] [] S' x' Sm y') : LW p l e s m below meth c D ty σ0 b kc ks 275 [some (.ref 0), some (.ref 1), some (.ref 2), some (.int (nI i))] [] Sx xx Sm xm := by
  obtain ⟨v, S', x', y', hgx, hgm, hR'⟩ := hO.2 cc Sx xx Sm xm 3 (xs (nI (i + 1)).toNatClampNeg) (xs (nI (i + 2)).toNatClampNeg) (xs (nI (i + 3)).toNatClampNeg) (xs (nI (i + 4)).toNatClampNeg) hc (by decide) hR
  obtain ⟨r1, hf1, he1⟩ := Option.map_eq_some_iff.mp hgx
  obtain ⟨r2, hf2, he2⟩ := Option.map_eq_some_iff.mp hgm
  cases he1
  have e1 := Value.int.inj (Option.some.inj (congrArg Prod.fst he2))
  have e2 := congrArg Prod.snd he2
  dsimp only at e1 e2
  subst e2
  obtain ⟨hWx, hTx, hWm, hTm⟩ := hO.1 cc Sx xx Sm xm hR
  refine LW.pure (pc' := 276) (st' := [.ref 1]) (fun hl k => lv_aload_n C.hx C.hb dL_law_275 rfl (hl.get (j := 1) (v := .ref 1) rfl) k) ?_
  refine LW.pure (pc' := 277) (st' := [.ref 0, .ref 1]) (fun hl k => lv_aload_n C.hx C.hb dL_law_276 rfl (hl.get (j := 0) (v := .ref 0) rfl) k) ?_
  refine LW.pure (pc' := 278) (st' := [.int (nI i), .ref 0, .ref 1]) (fun hl k => lv_iload_n C.hx C.hb dL_law_277 rfl (hl.get (j := 3) (v := .int (nI i)) rfl) k) ?_
  refine LW.pure (pc' := 279) (st' := [.int 1, .int (nI i), .ref 0, .ref 1]) (fun hl k => lv_iconst C.hx C.hb dL_law_278 (by decide) k) ?_
  refine LW.pure (pc' := 280) (st' := [.int (nI (i + 1)), .ref 0, .ref 1]) (fun hl k => lv_iadd C.hx C.hb dL_law_279 (by rw [show nI i + 1 = nI (i + 1) from nI_add i 1]; exact k)) ?_
  refine LW.sld (pc' := 281) C (vp_in_nI (by omega) (by omega)) dL_law_280 rfl ?_
  refine LW.pure (pc' := 282) (st' := [.ref 0, .int (xs (nI (i + 1)).toNatClampNeg), .ref 1]) (fun hl k => lv_aload_n C.hx C.hb dL_law_281 rfl (hl.get (j := 0) (v := .ref 0) rfl) k) ?_
  refine LW.pure (pc' := 283) (st' := [.int (nI i), .ref 0, .int (xs (nI (i + 1)).toNatClampNeg), .ref 1]) (fun hl k => lv_iload_n C.hx C.hb dL_law_282 rfl (hl.get (j := 3) (v := .int (nI i)) rfl) k) ?_
  refine LW.pure (pc' := 284) (st' := [.int 2, .int (nI i), .ref 0, .int (xs (nI (i + 1)).toNatClampNeg), .ref 1]) (fun hl k => lv_iconst C.hx C.hb dL_law_283 (by decide) k) ?_
  refine LW.pure (pc' := 285) (st' := [.int (nI (i + 2)), .ref 0, .int (xs (nI (i + 1)).toNatClampNeg), .ref 1]) (fun hl k => lv_iadd C.hx C.hb dL_law_284 (by rw [show nI i + 2 = nI (i + 2) from nI_add i 2]; exact k)) ?_
  refine LW.sld (pc' := 286) C (vp_in_nI (by omega) (by omega)) dL_law_285 rfl ?_
  refine lw_callX (M' := mX11_plate) (As := [.int (xs (nI (i + 1)).toNatClampNeg), .int (xs (nI (i + 2)).toNatClampNeg)]) (st := []) (mc := 0) (ms := 0) (dd := 200) (pc' := 289) C ln_PlateRoundLaw_36 lb_X11_plate (by decide) (t_X11_plate (N := N) (d := 200) hWx (by decide) hTx r1 hf1) (by simp [nR]) hTx (by simp [nR]) (Nat.le_of_ble_eq_true rfl) rfl dL_law_286 rfl (by omega) (by omega) (fun r S' x' q v hv => by rw [q.1] at hv; cases hv; trivial) (fun r S' x' q _ => ?_)
  obtain ⟨rfl, rfl, rfl⟩ := q
  show LW p l e s m below meth c D ty σ0 b (kc + 0) (ks + 0) 289 [some (.ref 0), some (.ref 1), some (.ref 2), some (.int (nI i))] [.int r1] _ _ _ _
  refine LW.pure (pc' := 290) (st' := [.ref 2, .int r1]) (fun hl k => lv_aload_n C.hx C.hb dL_law_289 rfl (hl.get (j := 2) (v := .ref 2) rfl) k) ?_
  refine LW.pure (pc' := 291) (st' := [.ref 0, .ref 2, .int r1]) (fun hl k => lv_aload_n C.hx C.hb dL_law_290 rfl (hl.get (j := 0) (v := .ref 0) rfl) k) ?_
  refine LW.pure (pc' := 292) (st' := [.int (nI i), .ref 0, .ref 2, .int r1]) (fun hl k => lv_iload_n C.hx C.hb dL_law_291 rfl (hl.get (j := 3) (v := .int (nI i)) rfl) k) ?_
  refine LW.pure (pc' := 293) (st' := [.int 1, .int (nI i), .ref 0, .ref 2, .int r1]) (fun hl k => lv_iconst C.hx C.hb dL_law_292 (by decide) k) ?_
  refine LW.pure (pc' := 294) (st' := [.int (nI (i + 1)), .ref 0, .ref 2, .int r1]) (fun hl k => lv_iadd C.hx C.hb dL_law_293 (by rw [show nI i + 1 = nI (i + 1) from nI_add i 1]; exact k)) ?_
  refine LW.sld (pc' := 295) C (vp_in_nI (by omega) (by omega)) dL_law_294 rfl ?_
  refine LW.pure (pc' := 296) (st' := [.ref 0, .int (xs (nI (i + 1)).toNatClampNeg), .ref 2, .int r1]) (fun hl k => lv_aload_n C.hx C.hb dL_law_295 rfl (hl.get (j := 0) (v := .ref 0) rfl) k) ?_
  refine LW.pure (pc' := 297) (st' := [.int (nI i), .ref 0, .int (xs (nI (i + 1)).toNatClampNeg), .ref 2, .int r1]) (fun hl k => lv_iload_n C.hx C.hb dL_law_296 rfl (hl.get (j := 3) (v := .int (nI i)) rfl) k) ?_
  refine LW.pure (pc' := 298) (st' := [.int 2, .int (nI i), .ref 0, .int (xs (nI (i + 1)).toNatClampNeg), .ref 2, .int r1]) (fun hl k => lv_iconst C.hx C.hb dL_law_297 (by decide) k) ?_
  refine LW.pure (pc' := 299) (st' := [.int (nI (i + 2)), .ref 0, .int (xs (nI (i + 1)).toNatClampNeg), .ref 2, .int r1]) (fun hl k => lv_iadd C.hx C.hb dL_law_298 (by rw [show nI i + 2 = nI (i + 2) from nI_add i 2]; exact k)) ?_
  refine LW.sld (pc' := 300) C (vp_in_nI (by omega) (by omega)) dL_law_299 rfl ?_
  refine lw_callM (M' := mX12_plate) (As := [.int (xs (nI (i + 1)).toNatClampNeg), .int (xs (nI (i + 2)).toNatClampNeg)]) (st := [.int r1]) (mc := 0) (ms := 0) (dd := 200) (pc' := 303) C ln_PlateRoundLaw_39 lb_X12_plate (by decide) (t_X12_plate (N := N) (d := 200) hWm (by decide) hTm r2 hf2) (by simp [nR]) hTm (by simp [nR]) (Nat.le_of_ble_eq_true rfl) rfl dL_law_300 rfl (by omega) (by omega) (fun r S' x' q v hv => by rw [q.1] at hv; cases hv; trivial) (fun r S' x' q _ => ?_)
  obtain ⟨rfl, rfl, rfl⟩ := q
  show LW p l e s m below meth c D ty σ0 b ((kc + 0) + 0) ((ks + 0) + 0) 303 [some (.ref 0), some (.ref 1), some (.ref 2), some (.int (nI i))] [.int r2, .int r1] _ _ _ _
  refine LW.br (c1 := r1 = r2) (pc1 := 1159) (pc' := 306) (st' := []) (fun kt kf => lv_icmp_eq C.hx C.hb dL_law_303 (by decide) kt kf) (fun _ => ?_) (fun h => absurd e1.symm h)
  exact LW.widen (by omega) (by omega) (back _ _ _ hR')
set_option maxHeartbeats 2000000 in
theorem law_case4 (C : LC p s m meth c b L xs D ty σ0) (hL : L ≤ 2561) (hO : LAWOK N R) {cc i kc ks : Nat} {Sx Sm : SH} {xx xm : DY} (hc : cc < 512) (hR : R cc Sx xx Sm xm) (hi : i + 5 ≤ L) (hkc : kc + 4 ≤ 600000) (hks : ks + 483 ≤ 7302250)
    (back : ∀ S' x' y', R (cc + 1) S' x' Sm y' → LW p l e s m below meth c D ty σ0 b (kc + 4) (ks + 483) 1159 [some (.ref 0), some (.ref 1), some (.ref 2), some (.int (nI i))] [] S' x' Sm y') : LW p l e s m below meth c D ty σ0 b kc ks 308 [some (.ref 0), some (.ref 1), some (.ref 2), some (.int (nI i))] [] Sx xx Sm xm := by
  obtain ⟨v, S', x', y', hgx, hgm, hR'⟩ := hO.2 cc Sx xx Sm xm 4 (xs (nI (i + 1)).toNatClampNeg) (xs (nI (i + 2)).toNatClampNeg) (xs (nI (i + 3)).toNatClampNeg) (xs (nI (i + 4)).toNatClampNeg) hc (by decide) hR
  obtain ⟨r1, hf1, he1⟩ := Option.map_eq_some_iff.mp hgx
  obtain ⟨r2, hf2, he2⟩ := Option.map_eq_some_iff.mp hgm
  cases he1
  have e1 := Value.int.inj (Option.some.inj (congrArg Prod.fst he2))
  have e2 := congrArg Prod.snd he2
  dsimp only at e1 e2
  subst e2
  obtain ⟨hWx, hTx, hWm, hTm⟩ := hO.1 cc Sx xx Sm xm hR
  refine LW.pure (pc' := 309) (st' := [.ref 1]) (fun hl k => lv_aload_n C.hx C.hb dL_law_308 rfl (hl.get (j := 1) (v := .ref 1) rfl) k) ?_
  refine LW.pure (pc' := 310) (st' := [.ref 0, .ref 1]) (fun hl k => lv_aload_n C.hx C.hb dL_law_309 rfl (hl.get (j := 0) (v := .ref 0) rfl) k) ?_
  refine LW.pure (pc' := 311) (st' := [.int (nI i), .ref 0, .ref 1]) (fun hl k => lv_iload_n C.hx C.hb dL_law_310 rfl (hl.get (j := 3) (v := .int (nI i)) rfl) k) ?_
  refine LW.pure (pc' := 312) (st' := [.int 1, .int (nI i), .ref 0, .ref 1]) (fun hl k => lv_iconst C.hx C.hb dL_law_311 (by decide) k) ?_
  refine LW.pure (pc' := 313) (st' := [.int (nI (i + 1)), .ref 0, .ref 1]) (fun hl k => lv_iadd C.hx C.hb dL_law_312 (by rw [show nI i + 1 = nI (i + 1) from nI_add i 1]; exact k)) ?_
  refine LW.sld (pc' := 314) C (vp_in_nI (by omega) (by omega)) dL_law_313 rfl ?_
  refine lw_callX (M' := mX11_at) (As := [.int (xs (nI (i + 1)).toNatClampNeg)]) (st := []) (mc := 0) (ms := 0) (dd := 200) (pc' := 317) C ln_PlateRoundLaw_40 lb_X11_at (by decide) (t_X11_at (N := N) (d := 200) hWx (by decide) hTx r1 hf1) (by simp [nR]) hTx (by simp [nR]) (Nat.le_of_ble_eq_true rfl) rfl dL_law_314 rfl (by omega) (by omega) (fun r S' x' q v hv => by rw [q.1] at hv; cases hv; trivial) (fun r S' x' q _ => ?_)
  obtain ⟨rfl, rfl, rfl⟩ := q
  show LW p l e s m below meth c D ty σ0 b (kc + 0) (ks + 0) 317 [some (.ref 0), some (.ref 1), some (.ref 2), some (.int (nI i))] [.int r1] _ _ _ _
  refine LW.pure (pc' := 318) (st' := [.ref 2, .int r1]) (fun hl k => lv_aload_n C.hx C.hb dL_law_317 rfl (hl.get (j := 2) (v := .ref 2) rfl) k) ?_
  refine LW.pure (pc' := 319) (st' := [.ref 0, .ref 2, .int r1]) (fun hl k => lv_aload_n C.hx C.hb dL_law_318 rfl (hl.get (j := 0) (v := .ref 0) rfl) k) ?_
  refine LW.pure (pc' := 320) (st' := [.int (nI i), .ref 0, .ref 2, .int r1]) (fun hl k => lv_iload_n C.hx C.hb dL_law_319 rfl (hl.get (j := 3) (v := .int (nI i)) rfl) k) ?_
  refine LW.pure (pc' := 321) (st' := [.int 1, .int (nI i), .ref 0, .ref 2, .int r1]) (fun hl k => lv_iconst C.hx C.hb dL_law_320 (by decide) k) ?_
  refine LW.pure (pc' := 322) (st' := [.int (nI (i + 1)), .ref 0, .ref 2, .int r1]) (fun hl k => lv_iadd C.hx C.hb dL_law_321 (by rw [show nI i + 1 = nI (i + 1) from nI_add i 1]; exact k)) ?_
  refine LW.sld (pc' := 323) C (vp_in_nI (by omega) (by omega)) dL_law_322 rfl ?_
  refine lw_callM (M' := mX12_at) (As := [.int (xs (nI (i + 1)).toNatClampNeg)]) (st := [.int r1]) (mc := 0) (ms := 0) (dd := 200) (pc' := 326) C ln_PlateRoundLaw_43 lb_X12_at (by decide) (t_X12_at (N := N) (d := 200) hWm (by decide) hTm r2 hf2) (by simp [nR]) hTm (by simp [nR]) (Nat.le_of_ble_eq_true rfl) rfl dL_law_323 rfl (by omega) (by omega) (fun r S' x' q v hv => by rw [q.1] at hv; cases hv; trivial) (fun r S' x' q _ => ?_)
  obtain ⟨rfl, rfl, rfl⟩ := q
  show LW p l e s m below meth c D ty σ0 b ((kc + 0) + 0) ((ks + 0) + 0) 326 [some (.ref 0), some (.ref 1), some (.ref 2), some (.int (nI i))] [.int r2, .int r1] _ _ _ _
  refine LW.br (c1 := r1 = r2) (pc1 := 1159) (pc' := 329) (st' := []) (fun kt kf => lv_icmp_eq C.hx C.hb dL_law_326 (by decide) kt kf) (fun _ => ?_) (fun h => absurd e1.symm h)
  exact LW.widen (by omega) (by omega) (back _ _ _ hR')
set_option maxHeartbeats 2000000 in
theorem law_case5 (C : LC p s m meth c b L xs D ty σ0) (hL : L ≤ 2561) (hO : LAWOK N R) {cc i kc ks : Nat} {Sx Sm : SH} {xx xm : DY} (hc : cc < 512) (hR : R cc Sx xx Sm xm) (hi : i + 5 ≤ L) (hkc : kc + 4 ≤ 600000) (hks : ks + 483 ≤ 7302250)
    (back : ∀ S' x' y', R (cc + 1) S' x' Sm y' → LW p l e s m below meth c D ty σ0 b (kc + 4) (ks + 483) 1159 [some (.ref 0), some (.ref 1), some (.ref 2), some (.int (nI i))] [] S' x' Sm y') : LW p l e s m below meth c D ty σ0 b kc ks 331 [some (.ref 0), some (.ref 1), some (.ref 2), some (.int (nI i))] [] Sx xx Sm xm := by
  obtain ⟨v, S', x', y', hgx, hgm, hR'⟩ := hO.2 cc Sx xx Sm xm 5 (xs (nI (i + 1)).toNatClampNeg) (xs (nI (i + 2)).toNatClampNeg) (xs (nI (i + 3)).toNatClampNeg) (xs (nI (i + 4)).toNatClampNeg) hc (by decide) hR
  obtain ⟨r1, hf1, he1⟩ := Option.map_eq_some_iff.mp hgx
  obtain ⟨r2, hf2, he2⟩ := Option.map_eq_some_iff.mp hgm
  cases he1
  have e1 := Value.int.inj (Option.some.inj (congrArg Prod.fst he2))
  have e2 := congrArg Prod.snd he2
  dsimp only at e1 e2
  subst e2
  obtain ⟨hWx, hTx, hWm, hTm⟩ := hO.1 cc Sx xx Sm xm hR
  refine LW.pure (pc' := 332) (st' := [.ref 1]) (fun hl k => lv_aload_n C.hx C.hb dL_law_331 rfl (hl.get (j := 1) (v := .ref 1) rfl) k) ?_
  refine LW.pure (pc' := 333) (st' := [.ref 0, .ref 1]) (fun hl k => lv_aload_n C.hx C.hb dL_law_332 rfl (hl.get (j := 0) (v := .ref 0) rfl) k) ?_
  refine LW.pure (pc' := 334) (st' := [.int (nI i), .ref 0, .ref 1]) (fun hl k => lv_iload_n C.hx C.hb dL_law_333 rfl (hl.get (j := 3) (v := .int (nI i)) rfl) k) ?_
  refine LW.pure (pc' := 335) (st' := [.int 1, .int (nI i), .ref 0, .ref 1]) (fun hl k => lv_iconst C.hx C.hb dL_law_334 (by decide) k) ?_
  refine LW.pure (pc' := 336) (st' := [.int (nI (i + 1)), .ref 0, .ref 1]) (fun hl k => lv_iadd C.hx C.hb dL_law_335 (by rw [show nI i + 1 = nI (i + 1) from nI_add i 1]; exact k)) ?_
  refine LW.sld (pc' := 337) C (vp_in_nI (by omega) (by omega)) dL_law_336 rfl ?_
  refine lw_callX (M' := mX11_gone) (As := [.int (xs (nI (i + 1)).toNatClampNeg)]) (st := []) (mc := 0) (ms := 0) (dd := 200) (pc' := 340) C ln_PlateRoundLaw_44 lb_X11_gone (by decide) (t_X11_gone (N := N) (d := 200) hWx (by decide) hTx r1 hf1) (by simp [nR]) hTx (by simp [nR]) (Nat.le_of_ble_eq_true rfl) rfl dL_law_337 rfl (by omega) (by omega) (fun r S' x' q v hv => by rw [q.1] at hv; cases hv; trivial) (fun r S' x' q _ => ?_)
  obtain ⟨rfl, rfl, rfl⟩ := q
  show LW p l e s m below meth c D ty σ0 b (kc + 0) (ks + 0) 340 [some (.ref 0), some (.ref 1), some (.ref 2), some (.int (nI i))] [.int r1.1] _ _ _ _
  refine LW.pure (pc' := 341) (st' := [.ref 2, .int r1.1]) (fun hl k => lv_aload_n C.hx C.hb dL_law_340 rfl (hl.get (j := 2) (v := .ref 2) rfl) k) ?_
  refine LW.pure (pc' := 342) (st' := [.ref 0, .ref 2, .int r1.1]) (fun hl k => lv_aload_n C.hx C.hb dL_law_341 rfl (hl.get (j := 0) (v := .ref 0) rfl) k) ?_
  refine LW.pure (pc' := 343) (st' := [.int (nI i), .ref 0, .ref 2, .int r1.1]) (fun hl k => lv_iload_n C.hx C.hb dL_law_342 rfl (hl.get (j := 3) (v := .int (nI i)) rfl) k) ?_
  refine LW.pure (pc' := 344) (st' := [.int 1, .int (nI i), .ref 0, .ref 2, .int r1.1]) (fun hl k => lv_iconst C.hx C.hb dL_law_343 (by decide) k) ?_
  refine LW.pure (pc' := 345) (st' := [.int (nI (i + 1)), .ref 0, .ref 2, .int r1.1]) (fun hl k => lv_iadd C.hx C.hb dL_law_344 (by rw [show nI i + 1 = nI (i + 1) from nI_add i 1]; exact k)) ?_
  refine LW.sld (pc' := 346) C (vp_in_nI (by omega) (by omega)) dL_law_345 rfl ?_
  refine lw_callM (M' := mX12_gone) (As := [.int (xs (nI (i + 1)).toNatClampNeg)]) (st := [.int r1.1]) (mc := 0) (ms := 0) (dd := 200) (pc' := 349) C ln_PlateRoundLaw_47 lb_X12_gone (by decide) (t_X12_gone (N := N) (d := 200) hWm (by decide) hTm r2 hf2) (by simp [nR]) hTm (by simp [nR]) (Nat.le_of_ble_eq_true rfl) rfl dL_law_346 rfl (by omega) (by omega) (fun r S' x' q v hv => by rw [q.1] at hv; cases hv; trivial) (fun r S' x' q _ => ?_)
  obtain ⟨rfl, rfl, rfl⟩ := q
  show LW p l e s m below meth c D ty σ0 b ((kc + 0) + 0) ((ks + 0) + 0) 349 [some (.ref 0), some (.ref 1), some (.ref 2), some (.int (nI i))] [.int r2.1, .int r1.1] _ _ _ _
  refine LW.br (c1 := r1.1 = r2.1) (pc1 := 1159) (pc' := 352) (st' := []) (fun kt kf => lv_icmp_eq C.hx C.hb dL_law_349 (by decide) kt kf) (fun _ => ?_) (fun h => absurd e1.symm h)
  exact LW.widen (by omega) (by omega) (back _ _ _ hR')
set_option maxHeartbeats 2000000 in
theorem law_case6 (C : LC p s m meth c b L xs D ty σ0) (hL : L ≤ 2561) (hO : LAWOK N R) {cc i kc ks : Nat} {Sx Sm : SH} {xx xm : DY} (hc : cc < 512) (hR : R cc Sx xx Sm xm) (hi : i + 5 ≤ L) (hkc : kc + 4 ≤ 600000) (hks : ks + 483 ≤ 7302250)
    (back : ∀ S' x' y', R (cc + 1) S' x' Sm y' → LW p l e s m below meth c D ty σ0 b (kc + 4) (ks + 483) 1159 [some (.ref 0), some (.ref 1), some (.ref 2), some (.int (nI i))] [] S' x' Sm y') : LW p l e s m below meth c D ty σ0 b kc ks 354 [some (.ref 0), some (.ref 1), some (.ref 2), some (.int (nI i))] [] Sx xx Sm xm := by
  obtain ⟨v, S', x', y', hgx, hgm, hR'⟩ := hO.2 cc Sx xx Sm xm 6 (xs (nI (i + 1)).toNatClampNeg) (xs (nI (i + 2)).toNatClampNeg) (xs (nI (i + 3)).toNatClampNeg) (xs (nI (i + 4)).toNatClampNeg) hc (by decide) hR
  obtain ⟨r1, hf1, he1⟩ := Option.map_eq_some_iff.mp hgx
  obtain ⟨r2, hf2, he2⟩ := Option.map_eq_some_iff.mp hgm
  cases he1
  have e1 := Value.int.inj (Option.some.inj (congrArg Prod.fst he2))
  have e2 := congrArg Prod.snd he2
  dsimp only at e1 e2
  subst e2
  obtain ⟨hWx, hTx, hWm, hTm⟩ := hO.1 cc Sx xx Sm xm hR
  refine LW.pure (pc' := 355) (st' := [.ref 1]) (fun hl k => lv_aload_n C.hx C.hb dL_law_354 rfl (hl.get (j := 1) (v := .ref 1) rfl) k) ?_
  refine LW.pure (pc' := 356) (st' := [.ref 0, .ref 1]) (fun hl k => lv_aload_n C.hx C.hb dL_law_355 rfl (hl.get (j := 0) (v := .ref 0) rfl) k) ?_
  refine LW.pure (pc' := 357) (st' := [.int (nI i), .ref 0, .ref 1]) (fun hl k => lv_iload_n C.hx C.hb dL_law_356 rfl (hl.get (j := 3) (v := .int (nI i)) rfl) k) ?_
  refine LW.pure (pc' := 358) (st' := [.int 1, .int (nI i), .ref 0, .ref 1]) (fun hl k => lv_iconst C.hx C.hb dL_law_357 (by decide) k) ?_
  refine LW.pure (pc' := 359) (st' := [.int (nI (i + 1)), .ref 0, .ref 1]) (fun hl k => lv_iadd C.hx C.hb dL_law_358 (by rw [show nI i + 1 = nI (i + 1) from nI_add i 1]; exact k)) ?_
  refine LW.sld (pc' := 360) C (vp_in_nI (by omega) (by omega)) dL_law_359 rfl ?_
  refine lw_callX (M' := mX11_seat) (As := [.int (xs (nI (i + 1)).toNatClampNeg)]) (st := []) (mc := 0) (ms := 0) (dd := 200) (pc' := 363) C ln_PlateRoundLaw_48 lb_X11_seat (by decide) (t_X11_seat (N := N) (d := 200) hWx (by decide) hTx r1 hf1) (by simp [nR]) hTx (by simp [nR]) (Nat.le_of_ble_eq_true rfl) rfl dL_law_360 rfl (by omega) (by omega) (fun r S' x' q v hv => by rw [q.1] at hv; cases hv; trivial) (fun r S' x' q _ => ?_)
  obtain ⟨rfl, rfl, rfl⟩ := q
  show LW p l e s m below meth c D ty σ0 b (kc + 0) (ks + 0) 363 [some (.ref 0), some (.ref 1), some (.ref 2), some (.int (nI i))] [.int r1.1] _ _ _ _
  refine LW.pure (pc' := 364) (st' := [.ref 2, .int r1.1]) (fun hl k => lv_aload_n C.hx C.hb dL_law_363 rfl (hl.get (j := 2) (v := .ref 2) rfl) k) ?_
  refine LW.pure (pc' := 365) (st' := [.ref 0, .ref 2, .int r1.1]) (fun hl k => lv_aload_n C.hx C.hb dL_law_364 rfl (hl.get (j := 0) (v := .ref 0) rfl) k) ?_
  refine LW.pure (pc' := 366) (st' := [.int (nI i), .ref 0, .ref 2, .int r1.1]) (fun hl k => lv_iload_n C.hx C.hb dL_law_365 rfl (hl.get (j := 3) (v := .int (nI i)) rfl) k) ?_
  refine LW.pure (pc' := 367) (st' := [.int 1, .int (nI i), .ref 0, .ref 2, .int r1.1]) (fun hl k => lv_iconst C.hx C.hb dL_law_366 (by decide) k) ?_
  refine LW.pure (pc' := 368) (st' := [.int (nI (i + 1)), .ref 0, .ref 2, .int r1.1]) (fun hl k => lv_iadd C.hx C.hb dL_law_367 (by rw [show nI i + 1 = nI (i + 1) from nI_add i 1]; exact k)) ?_
  refine LW.sld (pc' := 369) C (vp_in_nI (by omega) (by omega)) dL_law_368 rfl ?_
  refine lw_callM (M' := mX12_seat) (As := [.int (xs (nI (i + 1)).toNatClampNeg)]) (st := [.int r1.1]) (mc := 0) (ms := 0) (dd := 200) (pc' := 372) C ln_PlateRoundLaw_51 lb_X12_seat (by decide) (t_X12_seat (N := N) (d := 200) hWm (by decide) hTm r2 hf2) (by simp [nR]) hTm (by simp [nR]) (Nat.le_of_ble_eq_true rfl) rfl dL_law_369 rfl (by omega) (by omega) (fun r S' x' q v hv => by rw [q.1] at hv; cases hv; trivial) (fun r S' x' q _ => ?_)
  obtain ⟨rfl, rfl, rfl⟩ := q
  show LW p l e s m below meth c D ty σ0 b ((kc + 0) + 0) ((ks + 0) + 0) 372 [some (.ref 0), some (.ref 1), some (.ref 2), some (.int (nI i))] [.int r2.1, .int r1.1] _ _ _ _
  refine LW.br (c1 := r1.1 = r2.1) (pc1 := 1159) (pc' := 375) (st' := []) (fun kt kf => lv_icmp_eq C.hx C.hb dL_law_372 (by decide) kt kf) (fun _ => ?_) (fun h => absurd e1.symm h)
  exact LW.widen (by omega) (by omega) (back _ _ _ hR')
set_option maxHeartbeats 2000000 in
theorem law_case7 (C : LC p s m meth c b L xs D ty σ0) (hL : L ≤ 2561) (hO : LAWOK N R) {cc i kc ks : Nat} {Sx Sm : SH} {xx xm : DY} (hc : cc < 512) (hR : R cc Sx xx Sm xm) (hi : i + 5 ≤ L) (hkc : kc + 4 ≤ 600000) (hks : ks + 483 ≤ 7302250)
    (back : ∀ S' x' y', R (cc + 1) S' x' Sm y' → LW p l e s m below meth c D ty σ0 b (kc + 4) (ks + 483) 1159 [some (.ref 0), some (.ref 1), some (.ref 2), some (.int (nI i))] [] S' x' Sm y') : LW p l e s m below meth c D ty σ0 b kc ks 377 [some (.ref 0), some (.ref 1), some (.ref 2), some (.int (nI i))] [] Sx xx Sm xm := by
  obtain ⟨v, S', x', y', hgx, hgm, hR'⟩ := hO.2 cc Sx xx Sm xm 7 (xs (nI (i + 1)).toNatClampNeg) (xs (nI (i + 2)).toNatClampNeg) (xs (nI (i + 3)).toNatClampNeg) (xs (nI (i + 4)).toNatClampNeg) hc (by decide) hR
  obtain ⟨r1, hf1, he1⟩ := Option.map_eq_some_iff.mp hgx
  obtain ⟨r2, hf2, he2⟩ := Option.map_eq_some_iff.mp hgm
  cases he1
  have e1 := Value.int.inj (Option.some.inj (congrArg Prod.fst he2))
  have e2 := congrArg Prod.snd he2
  dsimp only at e1 e2
  subst e2
  obtain ⟨hWx, hTx, hWm, hTm⟩ := hO.1 cc Sx xx Sm xm hR
  refine LW.pure (pc' := 378) (st' := [.ref 1]) (fun hl k => lv_aload_n C.hx C.hb dL_law_377 rfl (hl.get (j := 1) (v := .ref 1) rfl) k) ?_
  refine LW.pure (pc' := 379) (st' := [.ref 0, .ref 1]) (fun hl k => lv_aload_n C.hx C.hb dL_law_378 rfl (hl.get (j := 0) (v := .ref 0) rfl) k) ?_
  refine LW.pure (pc' := 380) (st' := [.int (nI i), .ref 0, .ref 1]) (fun hl k => lv_iload_n C.hx C.hb dL_law_379 rfl (hl.get (j := 3) (v := .int (nI i)) rfl) k) ?_
  refine LW.pure (pc' := 381) (st' := [.int 1, .int (nI i), .ref 0, .ref 1]) (fun hl k => lv_iconst C.hx C.hb dL_law_380 (by decide) k) ?_
  refine LW.pure (pc' := 382) (st' := [.int (nI (i + 1)), .ref 0, .ref 1]) (fun hl k => lv_iadd C.hx C.hb dL_law_381 (by rw [show nI i + 1 = nI (i + 1) from nI_add i 1]; exact k)) ?_
  refine LW.sld (pc' := 383) C (vp_in_nI (by omega) (by omega)) dL_law_382 rfl ?_
  refine LW.pure (pc' := 384) (st' := [.ref 0, .int (xs (nI (i + 1)).toNatClampNeg), .ref 1]) (fun hl k => lv_aload_n C.hx C.hb dL_law_383 rfl (hl.get (j := 0) (v := .ref 0) rfl) k) ?_
  refine LW.pure (pc' := 385) (st' := [.int (nI i), .ref 0, .int (xs (nI (i + 1)).toNatClampNeg), .ref 1]) (fun hl k => lv_iload_n C.hx C.hb dL_law_384 rfl (hl.get (j := 3) (v := .int (nI i)) rfl) k) ?_
  refine LW.pure (pc' := 386) (st' := [.int 2, .int (nI i), .ref 0, .int (xs (nI (i + 1)).toNatClampNeg), .ref 1]) (fun hl k => lv_iconst C.hx C.hb dL_law_385 (by decide) k) ?_
  refine LW.pure (pc' := 387) (st' := [.int (nI (i + 2)), .ref 0, .int (xs (nI (i + 1)).toNatClampNeg), .ref 1]) (fun hl k => lv_iadd C.hx C.hb dL_law_386 (by rw [show nI i + 2 = nI (i + 2) from nI_add i 2]; exact k)) ?_
  refine LW.sld (pc' := 388) C (vp_in_nI (by omega) (by omega)) dL_law_387 rfl ?_
  refine LW.pure (pc' := 389) (st' := [.ref 0, .int (xs (nI (i + 2)).toNatClampNeg), .int (xs (nI (i + 1)).toNatClampNeg), .ref 1]) (fun hl k => lv_aload_n C.hx C.hb dL_law_388 rfl (hl.get (j := 0) (v := .ref 0) rfl) k) ?_
  refine LW.pure (pc' := 390) (st' := [.int (nI i), .ref 0, .int (xs (nI (i + 2)).toNatClampNeg), .int (xs (nI (i + 1)).toNatClampNeg), .ref 1]) (fun hl k => lv_iload_n C.hx C.hb dL_law_389 rfl (hl.get (j := 3) (v := .int (nI i)) rfl) k) ?_
  refine LW.pure (pc' := 391) (st' := [.int 3, .int (nI i), .ref 0, .int (xs (nI (i + 2)).toNatClampNeg), .int (xs (nI (i + 1)).toNatClampNeg), .ref 1]) (fun hl k => lv_iconst C.hx C.hb dL_law_390 (by decide) k) ?_
  refine LW.pure (pc' := 392) (st' := [.int (nI (i + 3)), .ref 0, .int (xs (nI (i + 2)).toNatClampNeg), .int (xs (nI (i + 1)).toNatClampNeg), .ref 1]) (fun hl k => lv_iadd C.hx C.hb dL_law_391 (by rw [show nI i + 3 = nI (i + 3) from nI_add i 3]; exact k)) ?_
  refine LW.sld (pc' := 393) C (vp_in_nI (by omega) (by omega)) dL_law_392 rfl ?_
  refine lw_callX (M' := mX11_guest) (As := [.int (xs (nI (i + 1)).toNatClampNeg), .int (xs (nI (i + 2)).toNatClampNeg), .int (xs (nI (i + 3)).toNatClampNeg)]) (st := []) (mc := 0) (ms := 0) (dd := 200) (pc' := 396) C ln_PlateRoundLaw_52 lb_X11_guest (by decide) (t_X11_guest (N := N) (d := 200) hWx (by decide) hTx r1 hf1) (by simp [nR]) hTx (by simp [nR]) (Nat.le_of_ble_eq_true rfl) rfl dL_law_393 rfl (by omega) (by omega) (fun r S' x' q v hv => by rw [q.1] at hv; cases hv; trivial) (fun r S' x' q _ => ?_)
  obtain ⟨rfl, rfl, rfl⟩ := q
  show LW p l e s m below meth c D ty σ0 b (kc + 0) (ks + 0) 396 [some (.ref 0), some (.ref 1), some (.ref 2), some (.int (nI i))] [.int r1.1] _ _ _ _
  refine LW.pure (pc' := 397) (st' := [.ref 2, .int r1.1]) (fun hl k => lv_aload_n C.hx C.hb dL_law_396 rfl (hl.get (j := 2) (v := .ref 2) rfl) k) ?_
  refine LW.pure (pc' := 398) (st' := [.ref 0, .ref 2, .int r1.1]) (fun hl k => lv_aload_n C.hx C.hb dL_law_397 rfl (hl.get (j := 0) (v := .ref 0) rfl) k) ?_
  refine LW.pure (pc' := 399) (st' := [.int (nI i), .ref 0, .ref 2, .int r1.1]) (fun hl k => lv_iload_n C.hx C.hb dL_law_398 rfl (hl.get (j := 3) (v := .int (nI i)) rfl) k) ?_
  refine LW.pure (pc' := 400) (st' := [.int 1, .int (nI i), .ref 0, .ref 2, .int r1.1]) (fun hl k => lv_iconst C.hx C.hb dL_law_399 (by decide) k) ?_
  refine LW.pure (pc' := 401) (st' := [.int (nI (i + 1)), .ref 0, .ref 2, .int r1.1]) (fun hl k => lv_iadd C.hx C.hb dL_law_400 (by rw [show nI i + 1 = nI (i + 1) from nI_add i 1]; exact k)) ?_
  refine LW.sld (pc' := 402) C (vp_in_nI (by omega) (by omega)) dL_law_401 rfl ?_
  refine LW.pure (pc' := 403) (st' := [.ref 0, .int (xs (nI (i + 1)).toNatClampNeg), .ref 2, .int r1.1]) (fun hl k => lv_aload_n C.hx C.hb dL_law_402 rfl (hl.get (j := 0) (v := .ref 0) rfl) k) ?_
  refine LW.pure (pc' := 404) (st' := [.int (nI i), .ref 0, .int (xs (nI (i + 1)).toNatClampNeg), .ref 2, .int r1.1]) (fun hl k => lv_iload_n C.hx C.hb dL_law_403 rfl (hl.get (j := 3) (v := .int (nI i)) rfl) k) ?_
  refine LW.pure (pc' := 405) (st' := [.int 2, .int (nI i), .ref 0, .int (xs (nI (i + 1)).toNatClampNeg), .ref 2, .int r1.1]) (fun hl k => lv_iconst C.hx C.hb dL_law_404 (by decide) k) ?_
  refine LW.pure (pc' := 406) (st' := [.int (nI (i + 2)), .ref 0, .int (xs (nI (i + 1)).toNatClampNeg), .ref 2, .int r1.1]) (fun hl k => lv_iadd C.hx C.hb dL_law_405 (by rw [show nI i + 2 = nI (i + 2) from nI_add i 2]; exact k)) ?_
  refine LW.sld (pc' := 407) C (vp_in_nI (by omega) (by omega)) dL_law_406 rfl ?_
  refine LW.pure (pc' := 408) (st' := [.ref 0, .int (xs (nI (i + 2)).toNatClampNeg), .int (xs (nI (i + 1)).toNatClampNeg), .ref 2, .int r1.1]) (fun hl k => lv_aload_n C.hx C.hb dL_law_407 rfl (hl.get (j := 0) (v := .ref 0) rfl) k) ?_
  refine LW.pure (pc' := 409) (st' := [.int (nI i), .ref 0, .int (xs (nI (i + 2)).toNatClampNeg), .int (xs (nI (i + 1)).toNatClampNeg), .ref 2, .int r1.1]) (fun hl k => lv_iload_n C.hx C.hb dL_law_408 rfl (hl.get (j := 3) (v := .int (nI i)) rfl) k) ?_
  refine LW.pure (pc' := 410) (st' := [.int 3, .int (nI i), .ref 0, .int (xs (nI (i + 2)).toNatClampNeg), .int (xs (nI (i + 1)).toNatClampNeg), .ref 2, .int r1.1]) (fun hl k => lv_iconst C.hx C.hb dL_law_409 (by decide) k) ?_
  refine LW.pure (pc' := 411) (st' := [.int (nI (i + 3)), .ref 0, .int (xs (nI (i + 2)).toNatClampNeg), .int (xs (nI (i + 1)).toNatClampNeg), .ref 2, .int r1.1]) (fun hl k => lv_iadd C.hx C.hb dL_law_410 (by rw [show nI i + 3 = nI (i + 3) from nI_add i 3]; exact k)) ?_
  refine LW.sld (pc' := 412) C (vp_in_nI (by omega) (by omega)) dL_law_411 rfl ?_
  refine lw_callM (M' := mX12_guest) (As := [.int (xs (nI (i + 1)).toNatClampNeg), .int (xs (nI (i + 2)).toNatClampNeg), .int (xs (nI (i + 3)).toNatClampNeg)]) (st := [.int r1.1]) (mc := 0) (ms := 0) (dd := 200) (pc' := 415) C ln_PlateRoundLaw_55 lb_X12_guest (by decide) (t_X12_guest (N := N) (d := 200) hWm (by decide) hTm r2 hf2) (by simp [nR]) hTm (by simp [nR]) (Nat.le_of_ble_eq_true rfl) rfl dL_law_412 rfl (by omega) (by omega) (fun r S' x' q v hv => by rw [q.1] at hv; cases hv; trivial) (fun r S' x' q _ => ?_)
  obtain ⟨rfl, rfl, rfl⟩ := q
  show LW p l e s m below meth c D ty σ0 b ((kc + 0) + 0) ((ks + 0) + 0) 415 [some (.ref 0), some (.ref 1), some (.ref 2), some (.int (nI i))] [.int r2.1, .int r1.1] _ _ _ _
  refine LW.br (c1 := r1.1 = r2.1) (pc1 := 1159) (pc' := 418) (st' := []) (fun kt kf => lv_icmp_eq C.hx C.hb dL_law_415 (by decide) kt kf) (fun _ => ?_) (fun h => absurd e1.symm h)
  exact LW.widen (by omega) (by omega) (back _ _ _ hR')
set_option maxHeartbeats 2000000 in
theorem law_case8 (C : LC p s m meth c b L xs D ty σ0) (hL : L ≤ 2561) (hO : LAWOK N R) {cc i kc ks : Nat} {Sx Sm : SH} {xx xm : DY} (hc : cc < 512) (hR : R cc Sx xx Sm xm) (hi : i + 5 ≤ L) (hkc : kc + 4 ≤ 600000) (hks : ks + 483 ≤ 7302250)
    (back : ∀ S' x' y', R (cc + 1) S' x' Sm y' → LW p l e s m below meth c D ty σ0 b (kc + 4) (ks + 483) 1159 [some (.ref 0), some (.ref 1), some (.ref 2), some (.int (nI i))] [] S' x' Sm y') : LW p l e s m below meth c D ty σ0 b kc ks 420 [some (.ref 0), some (.ref 1), some (.ref 2), some (.int (nI i))] [] Sx xx Sm xm := by
  obtain ⟨v, S', x', y', hgx, hgm, hR'⟩ := hO.2 cc Sx xx Sm xm 8 (xs (nI (i + 1)).toNatClampNeg) (xs (nI (i + 2)).toNatClampNeg) (xs (nI (i + 3)).toNatClampNeg) (xs (nI (i + 4)).toNatClampNeg) hc (by decide) hR
  obtain ⟨r1, hf1, he1⟩ := Option.map_eq_some_iff.mp hgx
  obtain ⟨r2, hf2, he2⟩ := Option.map_eq_some_iff.mp hgm
  cases he1
  have e1 := Value.int.inj (Option.some.inj (congrArg Prod.fst he2))
  have e2 := congrArg Prod.snd he2
  dsimp only at e1 e2
  subst e2
  obtain ⟨hWx, hTx, hWm, hTm⟩ := hO.1 cc Sx xx Sm xm hR
  refine LW.pure (pc' := 421) (st' := [.ref 1]) (fun hl k => lv_aload_n C.hx C.hb dL_law_420 rfl (hl.get (j := 1) (v := .ref 1) rfl) k) ?_
  refine LW.pure (pc' := 422) (st' := [.ref 0, .ref 1]) (fun hl k => lv_aload_n C.hx C.hb dL_law_421 rfl (hl.get (j := 0) (v := .ref 0) rfl) k) ?_
  refine LW.pure (pc' := 423) (st' := [.int (nI i), .ref 0, .ref 1]) (fun hl k => lv_iload_n C.hx C.hb dL_law_422 rfl (hl.get (j := 3) (v := .int (nI i)) rfl) k) ?_
  refine LW.pure (pc' := 424) (st' := [.int 1, .int (nI i), .ref 0, .ref 1]) (fun hl k => lv_iconst C.hx C.hb dL_law_423 (by decide) k) ?_
  refine LW.pure (pc' := 425) (st' := [.int (nI (i + 1)), .ref 0, .ref 1]) (fun hl k => lv_iadd C.hx C.hb dL_law_424 (by rw [show nI i + 1 = nI (i + 1) from nI_add i 1]; exact k)) ?_
  refine LW.sld (pc' := 426) C (vp_in_nI (by omega) (by omega)) dL_law_425 rfl ?_
  refine LW.pure (pc' := 427) (st' := [.ref 0, .int (xs (nI (i + 1)).toNatClampNeg), .ref 1]) (fun hl k => lv_aload_n C.hx C.hb dL_law_426 rfl (hl.get (j := 0) (v := .ref 0) rfl) k) ?_
  refine LW.pure (pc' := 428) (st' := [.int (nI i), .ref 0, .int (xs (nI (i + 1)).toNatClampNeg), .ref 1]) (fun hl k => lv_iload_n C.hx C.hb dL_law_427 rfl (hl.get (j := 3) (v := .int (nI i)) rfl) k) ?_
  refine LW.pure (pc' := 429) (st' := [.int 2, .int (nI i), .ref 0, .int (xs (nI (i + 1)).toNatClampNeg), .ref 1]) (fun hl k => lv_iconst C.hx C.hb dL_law_428 (by decide) k) ?_
  refine LW.pure (pc' := 430) (st' := [.int (nI (i + 2)), .ref 0, .int (xs (nI (i + 1)).toNatClampNeg), .ref 1]) (fun hl k => lv_iadd C.hx C.hb dL_law_429 (by rw [show nI i + 2 = nI (i + 2) from nI_add i 2]; exact k)) ?_
  refine LW.sld (pc' := 431) C (vp_in_nI (by omega) (by omega)) dL_law_430 rfl ?_
  refine lw_callX (M' := mX11_seatTold) (As := [.int (xs (nI (i + 1)).toNatClampNeg), .int (xs (nI (i + 2)).toNatClampNeg)]) (st := []) (mc := 0) (ms := 0) (dd := 200) (pc' := 434) C ln_PlateRoundLaw_56 lb_X11_seatTold (by decide) (t_X11_seatTold (N := N) (d := 200) hWx (by decide) hTx r1 hf1) (by simp [nR]) hTx (by simp [nR]) (Nat.le_of_ble_eq_true rfl) rfl dL_law_431 rfl (by omega) (by omega) (fun r S' x' q v hv => by rw [q.1] at hv; cases hv; trivial) (fun r S' x' q _ => ?_)
  obtain ⟨rfl, rfl, rfl⟩ := q
  show LW p l e s m below meth c D ty σ0 b (kc + 0) (ks + 0) 434 [some (.ref 0), some (.ref 1), some (.ref 2), some (.int (nI i))] [.int r1] _ _ _ _
  refine LW.pure (pc' := 435) (st' := [.ref 2, .int r1]) (fun hl k => lv_aload_n C.hx C.hb dL_law_434 rfl (hl.get (j := 2) (v := .ref 2) rfl) k) ?_
  refine LW.pure (pc' := 436) (st' := [.ref 0, .ref 2, .int r1]) (fun hl k => lv_aload_n C.hx C.hb dL_law_435 rfl (hl.get (j := 0) (v := .ref 0) rfl) k) ?_
  refine LW.pure (pc' := 437) (st' := [.int (nI i), .ref 0, .ref 2, .int r1]) (fun hl k => lv_iload_n C.hx C.hb dL_law_436 rfl (hl.get (j := 3) (v := .int (nI i)) rfl) k) ?_
  refine LW.pure (pc' := 438) (st' := [.int 1, .int (nI i), .ref 0, .ref 2, .int r1]) (fun hl k => lv_iconst C.hx C.hb dL_law_437 (by decide) k) ?_
  refine LW.pure (pc' := 439) (st' := [.int (nI (i + 1)), .ref 0, .ref 2, .int r1]) (fun hl k => lv_iadd C.hx C.hb dL_law_438 (by rw [show nI i + 1 = nI (i + 1) from nI_add i 1]; exact k)) ?_
  refine LW.sld (pc' := 440) C (vp_in_nI (by omega) (by omega)) dL_law_439 rfl ?_
  refine LW.pure (pc' := 441) (st' := [.ref 0, .int (xs (nI (i + 1)).toNatClampNeg), .ref 2, .int r1]) (fun hl k => lv_aload_n C.hx C.hb dL_law_440 rfl (hl.get (j := 0) (v := .ref 0) rfl) k) ?_
  refine LW.pure (pc' := 442) (st' := [.int (nI i), .ref 0, .int (xs (nI (i + 1)).toNatClampNeg), .ref 2, .int r1]) (fun hl k => lv_iload_n C.hx C.hb dL_law_441 rfl (hl.get (j := 3) (v := .int (nI i)) rfl) k) ?_
  refine LW.pure (pc' := 443) (st' := [.int 2, .int (nI i), .ref 0, .int (xs (nI (i + 1)).toNatClampNeg), .ref 2, .int r1]) (fun hl k => lv_iconst C.hx C.hb dL_law_442 (by decide) k) ?_
  refine LW.pure (pc' := 444) (st' := [.int (nI (i + 2)), .ref 0, .int (xs (nI (i + 1)).toNatClampNeg), .ref 2, .int r1]) (fun hl k => lv_iadd C.hx C.hb dL_law_443 (by rw [show nI i + 2 = nI (i + 2) from nI_add i 2]; exact k)) ?_
  refine LW.sld (pc' := 445) C (vp_in_nI (by omega) (by omega)) dL_law_444 rfl ?_
  refine lw_callM (M' := mX12_seatTold) (As := [.int (xs (nI (i + 1)).toNatClampNeg), .int (xs (nI (i + 2)).toNatClampNeg)]) (st := [.int r1]) (mc := 0) (ms := 0) (dd := 200) (pc' := 448) C ln_PlateRoundLaw_59 lb_X12_seatTold (by decide) (t_X12_seatTold (N := N) (d := 200) hWm (by decide) hTm r2 hf2) (by simp [nR]) hTm (by simp [nR]) (Nat.le_of_ble_eq_true rfl) rfl dL_law_445 rfl (by omega) (by omega) (fun r S' x' q v hv => by rw [q.1] at hv; cases hv; trivial) (fun r S' x' q _ => ?_)
  obtain ⟨rfl, rfl, rfl⟩ := q
  show LW p l e s m below meth c D ty σ0 b ((kc + 0) + 0) ((ks + 0) + 0) 448 [some (.ref 0), some (.ref 1), some (.ref 2), some (.int (nI i))] [.int r2, .int r1] _ _ _ _
  refine LW.br (c1 := r1 = r2) (pc1 := 1159) (pc' := 451) (st' := []) (fun kt kf => lv_icmp_eq C.hx C.hb dL_law_448 (by decide) kt kf) (fun _ => ?_) (fun h => absurd e1.symm h)
  exact LW.widen (by omega) (by omega) (back _ _ _ hR')
set_option maxHeartbeats 2000000 in
theorem law_case9 (C : LC p s m meth c b L xs D ty σ0) (hL : L ≤ 2561) (hO : LAWOK N R) {cc i kc ks : Nat} {Sx Sm : SH} {xx xm : DY} (hc : cc < 512) (hR : R cc Sx xx Sm xm) (hi : i + 5 ≤ L) (hkc : kc + 4 ≤ 600000) (hks : ks + 483 ≤ 7302250)
    (back : ∀ S' x' y', R (cc + 1) S' x' Sm y' → LW p l e s m below meth c D ty σ0 b (kc + 4) (ks + 483) 1159 [some (.ref 0), some (.ref 1), some (.ref 2), some (.int (nI i))] [] S' x' Sm y') : LW p l e s m below meth c D ty σ0 b kc ks 453 [some (.ref 0), some (.ref 1), some (.ref 2), some (.int (nI i))] [] Sx xx Sm xm := by
  obtain ⟨v, S', x', y', hgx, hgm, hR'⟩ := hO.2 cc Sx xx Sm xm 9 (xs (nI (i + 1)).toNatClampNeg) (xs (nI (i + 2)).toNatClampNeg) (xs (nI (i + 3)).toNatClampNeg) (xs (nI (i + 4)).toNatClampNeg) hc (by decide) hR
  obtain ⟨r1, hf1, he1⟩ := Option.map_eq_some_iff.mp hgx
  obtain ⟨r2, hf2, he2⟩ := Option.map_eq_some_iff.mp hgm
  cases he1
  have e1 := Value.long.inj (Option.some.inj (congrArg Prod.fst he2))
  have e2 := congrArg Prod.snd he2
  dsimp only at e1 e2
  subst e2
  obtain ⟨hWx, hTx, hWm, hTm⟩ := hO.1 cc Sx xx Sm xm hR
  refine LW.pure (pc' := 454) (st' := [.ref 1]) (fun hl k => lv_aload_n C.hx C.hb dL_law_453 rfl (hl.get (j := 1) (v := .ref 1) rfl) k) ?_
  refine LW.pure (pc' := 455) (st' := [.ref 0, .ref 1]) (fun hl k => lv_aload_n C.hx C.hb dL_law_454 rfl (hl.get (j := 0) (v := .ref 0) rfl) k) ?_
  refine LW.pure (pc' := 456) (st' := [.int (nI i), .ref 0, .ref 1]) (fun hl k => lv_iload_n C.hx C.hb dL_law_455 rfl (hl.get (j := 3) (v := .int (nI i)) rfl) k) ?_
  refine LW.pure (pc' := 457) (st' := [.int 1, .int (nI i), .ref 0, .ref 1]) (fun hl k => lv_iconst C.hx C.hb dL_law_456 (by decide) k) ?_
  refine LW.pure (pc' := 458) (st' := [.int (nI (i + 1)), .ref 0, .ref 1]) (fun hl k => lv_iadd C.hx C.hb dL_law_457 (by rw [show nI i + 1 = nI (i + 1) from nI_add i 1]; exact k)) ?_
  refine LW.sld (pc' := 459) C (vp_in_nI (by omega) (by omega)) dL_law_458 rfl ?_
  refine LW.pure (pc' := 460) (st' := [.ref 0, .int (xs (nI (i + 1)).toNatClampNeg), .ref 1]) (fun hl k => lv_aload_n C.hx C.hb dL_law_459 rfl (hl.get (j := 0) (v := .ref 0) rfl) k) ?_
  refine LW.pure (pc' := 461) (st' := [.int (nI i), .ref 0, .int (xs (nI (i + 1)).toNatClampNeg), .ref 1]) (fun hl k => lv_iload_n C.hx C.hb dL_law_460 rfl (hl.get (j := 3) (v := .int (nI i)) rfl) k) ?_
  refine LW.pure (pc' := 462) (st' := [.int 2, .int (nI i), .ref 0, .int (xs (nI (i + 1)).toNatClampNeg), .ref 1]) (fun hl k => lv_iconst C.hx C.hb dL_law_461 (by decide) k) ?_
  refine LW.pure (pc' := 463) (st' := [.int (nI (i + 2)), .ref 0, .int (xs (nI (i + 1)).toNatClampNeg), .ref 1]) (fun hl k => lv_iadd C.hx C.hb dL_law_462 (by rw [show nI i + 2 = nI (i + 2) from nI_add i 2]; exact k)) ?_
  refine LW.sld (pc' := 464) C (vp_in_nI (by omega) (by omega)) dL_law_463 rfl ?_
  refine lw_callX (M' := mX11_liking) (As := [.int (xs (nI (i + 1)).toNatClampNeg), .int (xs (nI (i + 2)).toNatClampNeg)]) (st := []) (mc := 0) (ms := 0) (dd := 200) (pc' := 467) C ln_PlateRoundLaw_60 lb_X11_liking (by decide) (t_X11_liking (N := N) (d := 200) hWx (by decide) hTx r1 hf1) (by simp [nR]) hTx (by simp [nR]) (Nat.le_of_ble_eq_true rfl) rfl dL_law_464 rfl (by omega) (by omega) (fun r S' x' q v hv => by rw [q.1] at hv; cases hv; trivial) (fun r S' x' q _ => ?_)
  obtain ⟨rfl, rfl, rfl⟩ := q
  show LW p l e s m below meth c D ty σ0 b (kc + 0) (ks + 0) 467 [some (.ref 0), some (.ref 1), some (.ref 2), some (.int (nI i))] [.long r1] _ _ _ _
  refine LW.pure (pc' := 468) (st' := [.ref 2, .long r1]) (fun hl k => lv_aload_n C.hx C.hb dL_law_467 rfl (hl.get (j := 2) (v := .ref 2) rfl) k) ?_
  refine LW.pure (pc' := 469) (st' := [.ref 0, .ref 2, .long r1]) (fun hl k => lv_aload_n C.hx C.hb dL_law_468 rfl (hl.get (j := 0) (v := .ref 0) rfl) k) ?_
  refine LW.pure (pc' := 470) (st' := [.int (nI i), .ref 0, .ref 2, .long r1]) (fun hl k => lv_iload_n C.hx C.hb dL_law_469 rfl (hl.get (j := 3) (v := .int (nI i)) rfl) k) ?_
  refine LW.pure (pc' := 471) (st' := [.int 1, .int (nI i), .ref 0, .ref 2, .long r1]) (fun hl k => lv_iconst C.hx C.hb dL_law_470 (by decide) k) ?_
  refine LW.pure (pc' := 472) (st' := [.int (nI (i + 1)), .ref 0, .ref 2, .long r1]) (fun hl k => lv_iadd C.hx C.hb dL_law_471 (by rw [show nI i + 1 = nI (i + 1) from nI_add i 1]; exact k)) ?_
  refine LW.sld (pc' := 473) C (vp_in_nI (by omega) (by omega)) dL_law_472 rfl ?_
  refine LW.pure (pc' := 474) (st' := [.ref 0, .int (xs (nI (i + 1)).toNatClampNeg), .ref 2, .long r1]) (fun hl k => lv_aload_n C.hx C.hb dL_law_473 rfl (hl.get (j := 0) (v := .ref 0) rfl) k) ?_
  refine LW.pure (pc' := 475) (st' := [.int (nI i), .ref 0, .int (xs (nI (i + 1)).toNatClampNeg), .ref 2, .long r1]) (fun hl k => lv_iload_n C.hx C.hb dL_law_474 rfl (hl.get (j := 3) (v := .int (nI i)) rfl) k) ?_
  refine LW.pure (pc' := 476) (st' := [.int 2, .int (nI i), .ref 0, .int (xs (nI (i + 1)).toNatClampNeg), .ref 2, .long r1]) (fun hl k => lv_iconst C.hx C.hb dL_law_475 (by decide) k) ?_
  refine LW.pure (pc' := 477) (st' := [.int (nI (i + 2)), .ref 0, .int (xs (nI (i + 1)).toNatClampNeg), .ref 2, .long r1]) (fun hl k => lv_iadd C.hx C.hb dL_law_476 (by rw [show nI i + 2 = nI (i + 2) from nI_add i 2]; exact k)) ?_
  refine LW.sld (pc' := 478) C (vp_in_nI (by omega) (by omega)) dL_law_477 rfl ?_
  refine lw_callM (M' := mX12_liking) (As := [.int (xs (nI (i + 1)).toNatClampNeg), .int (xs (nI (i + 2)).toNatClampNeg)]) (st := [.long r1]) (mc := 0) (ms := 0) (dd := 200) (pc' := 481) C ln_PlateRoundLaw_64 lb_X12_liking (by decide) (t_X12_liking (N := N) (d := 200) hWm (by decide) hTm r2 hf2) (by simp [nR]) hTm (by simp [nR]) (Nat.le_of_ble_eq_true rfl) rfl dL_law_478 rfl (by omega) (by omega) (fun r S' x' q v hv => by rw [q.1] at hv; cases hv; trivial) (fun r S' x' q _ => ?_)
  obtain ⟨rfl, rfl, rfl⟩ := q
  show LW p l e s m below meth c D ty σ0 b ((kc + 0) + 0) ((ks + 0) + 0) 481 [some (.ref 0), some (.ref 1), some (.ref 2), some (.int (nI i))] [.long r2, .long r1] _ _ _ _
  refine LW.pure (pc' := 482) (st' := [.int (lg_cmp r1 r2)]) (fun hl k => W.lcmp C.hx C.hb dL_law_481 k) ?_
  refine LW.br (c1 := lg_cmp r1 r2 = 0) (pc1 := 1159) (pc' := 485) (st' := []) (fun kt kf => lv_if_eq C.hx C.hb dL_law_482 (by decide) kt kf) (fun _ => ?_) (fun h => absurd (by rw [e1]; exact lg_self _) h)
  exact LW.widen (by omega) (by omega) (back _ _ _ hR')
set_option maxHeartbeats 2000000 in
theorem law_case10 (C : LC p s m meth c b L xs D ty σ0) (hL : L ≤ 2561) (hO : LAWOK N R) {cc i kc ks : Nat} {Sx Sm : SH} {xx xm : DY} (hc : cc < 512) (hR : R cc Sx xx Sm xm) (hi : i + 5 ≤ L) (hkc : kc + 4 ≤ 600000) (hks : ks + 483 ≤ 7302250)
    (back : ∀ S' x' y', R (cc + 1) S' x' Sm y' → LW p l e s m below meth c D ty σ0 b (kc + 4) (ks + 483) 1159 [some (.ref 0), some (.ref 1), some (.ref 2), some (.int (nI i))] [] S' x' Sm y') : LW p l e s m below meth c D ty σ0 b kc ks 487 [some (.ref 0), some (.ref 1), some (.ref 2), some (.int (nI i))] [] Sx xx Sm xm := by
  obtain ⟨v, S', x', y', hgx, hgm, hR'⟩ := hO.2 cc Sx xx Sm xm 10 (xs (nI (i + 1)).toNatClampNeg) (xs (nI (i + 2)).toNatClampNeg) (xs (nI (i + 3)).toNatClampNeg) (xs (nI (i + 4)).toNatClampNeg) hc (by decide) hR
  obtain ⟨r1, hf1, he1⟩ := Option.map_eq_some_iff.mp hgx
  obtain ⟨r2, hf2, he2⟩ := Option.map_eq_some_iff.mp hgm
  cases he1
  have e1 := Value.int.inj (Option.some.inj (congrArg Prod.fst he2))
  have e2 := congrArg Prod.snd he2
  dsimp only at e1 e2
  subst e2
  obtain ⟨hWx, hTx, hWm, hTm⟩ := hO.1 cc Sx xx Sm xm hR
  refine LW.pure (pc' := 488) (st' := [.ref 1]) (fun hl k => lv_aload_n C.hx C.hb dL_law_487 rfl (hl.get (j := 1) (v := .ref 1) rfl) k) ?_
  refine LW.pure (pc' := 489) (st' := [.ref 0, .ref 1]) (fun hl k => lv_aload_n C.hx C.hb dL_law_488 rfl (hl.get (j := 0) (v := .ref 0) rfl) k) ?_
  refine LW.pure (pc' := 490) (st' := [.int (nI i), .ref 0, .ref 1]) (fun hl k => lv_iload_n C.hx C.hb dL_law_489 rfl (hl.get (j := 3) (v := .int (nI i)) rfl) k) ?_
  refine LW.pure (pc' := 491) (st' := [.int 1, .int (nI i), .ref 0, .ref 1]) (fun hl k => lv_iconst C.hx C.hb dL_law_490 (by decide) k) ?_
  refine LW.pure (pc' := 492) (st' := [.int (nI (i + 1)), .ref 0, .ref 1]) (fun hl k => lv_iadd C.hx C.hb dL_law_491 (by rw [show nI i + 1 = nI (i + 1) from nI_add i 1]; exact k)) ?_
  refine LW.sld (pc' := 493) C (vp_in_nI (by omega) (by omega)) dL_law_492 rfl ?_
  refine LW.pure (pc' := 494) (st' := [.ref 0, .int (xs (nI (i + 1)).toNatClampNeg), .ref 1]) (fun hl k => lv_aload_n C.hx C.hb dL_law_493 rfl (hl.get (j := 0) (v := .ref 0) rfl) k) ?_
  refine LW.pure (pc' := 495) (st' := [.int (nI i), .ref 0, .int (xs (nI (i + 1)).toNatClampNeg), .ref 1]) (fun hl k => lv_iload_n C.hx C.hb dL_law_494 rfl (hl.get (j := 3) (v := .int (nI i)) rfl) k) ?_
  refine LW.pure (pc' := 496) (st' := [.int 2, .int (nI i), .ref 0, .int (xs (nI (i + 1)).toNatClampNeg), .ref 1]) (fun hl k => lv_iconst C.hx C.hb dL_law_495 (by decide) k) ?_
  refine LW.pure (pc' := 497) (st' := [.int (nI (i + 2)), .ref 0, .int (xs (nI (i + 1)).toNatClampNeg), .ref 1]) (fun hl k => lv_iadd C.hx C.hb dL_law_496 (by rw [show nI i + 2 = nI (i + 2) from nI_add i 2]; exact k)) ?_
  refine LW.sld (pc' := 498) C (vp_in_nI (by omega) (by omega)) dL_law_497 rfl ?_
  refine lw_callX (M' := mX11_pays) (As := [.int (xs (nI (i + 1)).toNatClampNeg), .int (xs (nI (i + 2)).toNatClampNeg)]) (st := []) (mc := 0) (ms := 0) (dd := 200) (pc' := 501) C ln_PlateRoundLaw_65 lb_X11_pays (by decide) (t_X11_pays (N := N) (d := 200) hWx (by decide) hTx r1 hf1) (by simp [nR]) hTx (by simp [nR]) (Nat.le_of_ble_eq_true rfl) rfl dL_law_498 rfl (by omega) (by omega) (fun r S' x' q v hv => by rw [q.1] at hv; cases hv; trivial) (fun r S' x' q _ => ?_)
  obtain ⟨rfl, rfl, rfl⟩ := q
  show LW p l e s m below meth c D ty σ0 b (kc + 0) (ks + 0) 501 [some (.ref 0), some (.ref 1), some (.ref 2), some (.int (nI i))] [.int r1.1] _ _ _ _
  refine LW.pure (pc' := 502) (st' := [.ref 2, .int r1.1]) (fun hl k => lv_aload_n C.hx C.hb dL_law_501 rfl (hl.get (j := 2) (v := .ref 2) rfl) k) ?_
  refine LW.pure (pc' := 503) (st' := [.ref 0, .ref 2, .int r1.1]) (fun hl k => lv_aload_n C.hx C.hb dL_law_502 rfl (hl.get (j := 0) (v := .ref 0) rfl) k) ?_
  refine LW.pure (pc' := 504) (st' := [.int (nI i), .ref 0, .ref 2, .int r1.1]) (fun hl k => lv_iload_n C.hx C.hb dL_law_503 rfl (hl.get (j := 3) (v := .int (nI i)) rfl) k) ?_
  refine LW.pure (pc' := 505) (st' := [.int 1, .int (nI i), .ref 0, .ref 2, .int r1.1]) (fun hl k => lv_iconst C.hx C.hb dL_law_504 (by decide) k) ?_
  refine LW.pure (pc' := 506) (st' := [.int (nI (i + 1)), .ref 0, .ref 2, .int r1.1]) (fun hl k => lv_iadd C.hx C.hb dL_law_505 (by rw [show nI i + 1 = nI (i + 1) from nI_add i 1]; exact k)) ?_
  refine LW.sld (pc' := 507) C (vp_in_nI (by omega) (by omega)) dL_law_506 rfl ?_
  refine LW.pure (pc' := 508) (st' := [.ref 0, .int (xs (nI (i + 1)).toNatClampNeg), .ref 2, .int r1.1]) (fun hl k => lv_aload_n C.hx C.hb dL_law_507 rfl (hl.get (j := 0) (v := .ref 0) rfl) k) ?_
  refine LW.pure (pc' := 509) (st' := [.int (nI i), .ref 0, .int (xs (nI (i + 1)).toNatClampNeg), .ref 2, .int r1.1]) (fun hl k => lv_iload_n C.hx C.hb dL_law_508 rfl (hl.get (j := 3) (v := .int (nI i)) rfl) k) ?_
  refine LW.pure (pc' := 510) (st' := [.int 2, .int (nI i), .ref 0, .int (xs (nI (i + 1)).toNatClampNeg), .ref 2, .int r1.1]) (fun hl k => lv_iconst C.hx C.hb dL_law_509 (by decide) k) ?_
  refine LW.pure (pc' := 511) (st' := [.int (nI (i + 2)), .ref 0, .int (xs (nI (i + 1)).toNatClampNeg), .ref 2, .int r1.1]) (fun hl k => lv_iadd C.hx C.hb dL_law_510 (by rw [show nI i + 2 = nI (i + 2) from nI_add i 2]; exact k)) ?_
  refine LW.sld (pc' := 512) C (vp_in_nI (by omega) (by omega)) dL_law_511 rfl ?_
  refine lw_callM (M' := mX12_pays) (As := [.int (xs (nI (i + 1)).toNatClampNeg), .int (xs (nI (i + 2)).toNatClampNeg)]) (st := [.int r1.1]) (mc := 0) (ms := 0) (dd := 200) (pc' := 515) C ln_PlateRoundLaw_68 lb_X12_pays (by decide) (t_X12_pays (N := N) (d := 200) hWm (by decide) hTm r2 hf2) (by simp [nR]) hTm (by simp [nR]) (Nat.le_of_ble_eq_true rfl) rfl dL_law_512 rfl (by omega) (by omega) (fun r S' x' q v hv => by rw [q.1] at hv; cases hv; trivial) (fun r S' x' q _ => ?_)
  obtain ⟨rfl, rfl, rfl⟩ := q
  show LW p l e s m below meth c D ty σ0 b ((kc + 0) + 0) ((ks + 0) + 0) 515 [some (.ref 0), some (.ref 1), some (.ref 2), some (.int (nI i))] [.int r2.1, .int r1.1] _ _ _ _
  refine LW.br (c1 := r1.1 = r2.1) (pc1 := 1159) (pc' := 518) (st' := []) (fun kt kf => lv_icmp_eq C.hx C.hb dL_law_515 (by decide) kt kf) (fun _ => ?_) (fun h => absurd e1.symm h)
  exact LW.widen (by omega) (by omega) (back _ _ _ hR')
set_option maxHeartbeats 2000000 in
theorem law_case11 (C : LC p s m meth c b L xs D ty σ0) (hL : L ≤ 2561) (hO : LAWOK N R) {cc i kc ks : Nat} {Sx Sm : SH} {xx xm : DY} (hc : cc < 512) (hR : R cc Sx xx Sm xm) (hi : i + 5 ≤ L) (hkc : kc + 4 ≤ 600000) (hks : ks + 483 ≤ 7302250)
    (back : ∀ S' x' y', R (cc + 1) S' x' Sm y' → LW p l e s m below meth c D ty σ0 b (kc + 4) (ks + 483) 1159 [some (.ref 0), some (.ref 1), some (.ref 2), some (.int (nI i))] [] S' x' Sm y') : LW p l e s m below meth c D ty σ0 b kc ks 520 [some (.ref 0), some (.ref 1), some (.ref 2), some (.int (nI i))] [] Sx xx Sm xm := by
  obtain ⟨v, S', x', y', hgx, hgm, hR'⟩ := hO.2 cc Sx xx Sm xm 11 (xs (nI (i + 1)).toNatClampNeg) (xs (nI (i + 2)).toNatClampNeg) (xs (nI (i + 3)).toNatClampNeg) (xs (nI (i + 4)).toNatClampNeg) hc (by decide) hR
  obtain ⟨r1, hf1, he1⟩ := Option.map_eq_some_iff.mp hgx
  obtain ⟨r2, hf2, he2⟩ := Option.map_eq_some_iff.mp hgm
  cases he1
  have e1 := Value.int.inj (Option.some.inj (congrArg Prod.fst he2))
  have e2 := congrArg Prod.snd he2
  dsimp only at e1 e2
  subst e2
  obtain ⟨hWx, hTx, hWm, hTm⟩ := hO.1 cc Sx xx Sm xm hR
  refine LW.pure (pc' := 521) (st' := [.ref 1]) (fun hl k => lv_aload_n C.hx C.hb dL_law_520 rfl (hl.get (j := 1) (v := .ref 1) rfl) k) ?_
  refine LW.pure (pc' := 522) (st' := [.ref 0, .ref 1]) (fun hl k => lv_aload_n C.hx C.hb dL_law_521 rfl (hl.get (j := 0) (v := .ref 0) rfl) k) ?_
  refine LW.pure (pc' := 523) (st' := [.int (nI i), .ref 0, .ref 1]) (fun hl k => lv_iload_n C.hx C.hb dL_law_522 rfl (hl.get (j := 3) (v := .int (nI i)) rfl) k) ?_
  refine LW.pure (pc' := 524) (st' := [.int 1, .int (nI i), .ref 0, .ref 1]) (fun hl k => lv_iconst C.hx C.hb dL_law_523 (by decide) k) ?_
  refine LW.pure (pc' := 525) (st' := [.int (nI (i + 1)), .ref 0, .ref 1]) (fun hl k => lv_iadd C.hx C.hb dL_law_524 (by rw [show nI i + 1 = nI (i + 1) from nI_add i 1]; exact k)) ?_
  refine LW.sld (pc' := 526) C (vp_in_nI (by omega) (by omega)) dL_law_525 rfl ?_
  refine lw_callX (M' := mX11_putBack) (As := [.int (xs (nI (i + 1)).toNatClampNeg)]) (st := []) (mc := 0) (ms := 0) (dd := 200) (pc' := 529) C ln_PlateRoundLaw_69 lb_X11_putBack (by decide) (t_X11_putBack (N := N) (d := 200) hWx (by decide) hTx r1 hf1) (by simp [nR]) hTx (by simp [nR]) (Nat.le_of_ble_eq_true rfl) rfl dL_law_526 rfl (by omega) (by omega) (fun r S' x' q v hv => by rw [q.1] at hv; cases hv; trivial) (fun r S' x' q _ => ?_)
  obtain ⟨rfl, rfl, rfl⟩ := q
  show LW p l e s m below meth c D ty σ0 b (kc + 0) (ks + 0) 529 [some (.ref 0), some (.ref 1), some (.ref 2), some (.int (nI i))] [.int r1.1] _ _ _ _
  refine LW.pure (pc' := 530) (st' := [.ref 2, .int r1.1]) (fun hl k => lv_aload_n C.hx C.hb dL_law_529 rfl (hl.get (j := 2) (v := .ref 2) rfl) k) ?_
  refine LW.pure (pc' := 531) (st' := [.ref 0, .ref 2, .int r1.1]) (fun hl k => lv_aload_n C.hx C.hb dL_law_530 rfl (hl.get (j := 0) (v := .ref 0) rfl) k) ?_
  refine LW.pure (pc' := 532) (st' := [.int (nI i), .ref 0, .ref 2, .int r1.1]) (fun hl k => lv_iload_n C.hx C.hb dL_law_531 rfl (hl.get (j := 3) (v := .int (nI i)) rfl) k) ?_
  refine LW.pure (pc' := 533) (st' := [.int 1, .int (nI i), .ref 0, .ref 2, .int r1.1]) (fun hl k => lv_iconst C.hx C.hb dL_law_532 (by decide) k) ?_
  refine LW.pure (pc' := 534) (st' := [.int (nI (i + 1)), .ref 0, .ref 2, .int r1.1]) (fun hl k => lv_iadd C.hx C.hb dL_law_533 (by rw [show nI i + 1 = nI (i + 1) from nI_add i 1]; exact k)) ?_
  refine LW.sld (pc' := 535) C (vp_in_nI (by omega) (by omega)) dL_law_534 rfl ?_
  refine lw_callM (M' := mX12_putBack) (As := [.int (xs (nI (i + 1)).toNatClampNeg)]) (st := [.int r1.1]) (mc := 0) (ms := 0) (dd := 200) (pc' := 538) C ln_PlateRoundLaw_72 lb_X12_putBack (by decide) (t_X12_putBack (N := N) (d := 200) hWm (by decide) hTm r2 hf2) (by simp [nR]) hTm (by simp [nR]) (Nat.le_of_ble_eq_true rfl) rfl dL_law_535 rfl (by omega) (by omega) (fun r S' x' q v hv => by rw [q.1] at hv; cases hv; trivial) (fun r S' x' q _ => ?_)
  obtain ⟨rfl, rfl, rfl⟩ := q
  show LW p l e s m below meth c D ty σ0 b ((kc + 0) + 0) ((ks + 0) + 0) 538 [some (.ref 0), some (.ref 1), some (.ref 2), some (.int (nI i))] [.int r2.1, .int r1.1] _ _ _ _
  refine LW.br (c1 := r1.1 = r2.1) (pc1 := 1159) (pc' := 541) (st' := []) (fun kt kf => lv_icmp_eq C.hx C.hb dL_law_538 (by decide) kt kf) (fun _ => ?_) (fun h => absurd e1.symm h)
  exact LW.widen (by omega) (by omega) (back _ _ _ hR')
set_option maxHeartbeats 2000000 in
theorem law_case12 (C : LC p s m meth c b L xs D ty σ0) (hL : L ≤ 2561) (hO : LAWOK N R) {cc i kc ks : Nat} {Sx Sm : SH} {xx xm : DY} (hc : cc < 512) (hR : R cc Sx xx Sm xm) (hi : i + 5 ≤ L) (hkc : kc + 4 ≤ 600000) (hks : ks + 483 ≤ 7302250)
    (back : ∀ S' x' y', R (cc + 1) S' x' Sm y' → LW p l e s m below meth c D ty σ0 b (kc + 4) (ks + 483) 1159 [some (.ref 0), some (.ref 1), some (.ref 2), some (.int (nI i))] [] S' x' Sm y') : LW p l e s m below meth c D ty σ0 b kc ks 543 [some (.ref 0), some (.ref 1), some (.ref 2), some (.int (nI i))] [] Sx xx Sm xm := by
  obtain ⟨v, S', x', y', hgx, hgm, hR'⟩ := hO.2 cc Sx xx Sm xm 12 (xs (nI (i + 1)).toNatClampNeg) (xs (nI (i + 2)).toNatClampNeg) (xs (nI (i + 3)).toNatClampNeg) (xs (nI (i + 4)).toNatClampNeg) hc (by decide) hR
  obtain ⟨r1, hf1, he1⟩ := Option.map_eq_some_iff.mp hgx
  obtain ⟨r2, hf2, he2⟩ := Option.map_eq_some_iff.mp hgm
  cases he1
  have e1 := Value.int.inj (Option.some.inj (congrArg Prod.fst he2))
  have e2 := congrArg Prod.snd he2
  dsimp only at e1 e2
  subst e2
  obtain ⟨hWx, hTx, hWm, hTm⟩ := hO.1 cc Sx xx Sm xm hR
  refine LW.pure (pc' := 544) (st' := [.ref 1]) (fun hl k => lv_aload_n C.hx C.hb dL_law_543 rfl (hl.get (j := 1) (v := .ref 1) rfl) k) ?_
  refine LW.pure (pc' := 545) (st' := [.ref 0, .ref 1]) (fun hl k => lv_aload_n C.hx C.hb dL_law_544 rfl (hl.get (j := 0) (v := .ref 0) rfl) k) ?_
  refine LW.pure (pc' := 546) (st' := [.int (nI i), .ref 0, .ref 1]) (fun hl k => lv_iload_n C.hx C.hb dL_law_545 rfl (hl.get (j := 3) (v := .int (nI i)) rfl) k) ?_
  refine LW.pure (pc' := 547) (st' := [.int 1, .int (nI i), .ref 0, .ref 1]) (fun hl k => lv_iconst C.hx C.hb dL_law_546 (by decide) k) ?_
  refine LW.pure (pc' := 548) (st' := [.int (nI (i + 1)), .ref 0, .ref 1]) (fun hl k => lv_iadd C.hx C.hb dL_law_547 (by rw [show nI i + 1 = nI (i + 1) from nI_add i 1]; exact k)) ?_
  refine LW.sld (pc' := 549) C (vp_in_nI (by omega) (by omega)) dL_law_548 rfl ?_
  refine LW.pure (pc' := 550) (st' := [.ref 0, .int (xs (nI (i + 1)).toNatClampNeg), .ref 1]) (fun hl k => lv_aload_n C.hx C.hb dL_law_549 rfl (hl.get (j := 0) (v := .ref 0) rfl) k) ?_
  refine LW.pure (pc' := 551) (st' := [.int (nI i), .ref 0, .int (xs (nI (i + 1)).toNatClampNeg), .ref 1]) (fun hl k => lv_iload_n C.hx C.hb dL_law_550 rfl (hl.get (j := 3) (v := .int (nI i)) rfl) k) ?_
  refine LW.pure (pc' := 552) (st' := [.int 2, .int (nI i), .ref 0, .int (xs (nI (i + 1)).toNatClampNeg), .ref 1]) (fun hl k => lv_iconst C.hx C.hb dL_law_551 (by decide) k) ?_
  refine LW.pure (pc' := 553) (st' := [.int (nI (i + 2)), .ref 0, .int (xs (nI (i + 1)).toNatClampNeg), .ref 1]) (fun hl k => lv_iadd C.hx C.hb dL_law_552 (by rw [show nI i + 2 = nI (i + 2) from nI_add i 2]; exact k)) ?_
  refine LW.sld (pc' := 554) C (vp_in_nI (by omega) (by omega)) dL_law_553 rfl ?_
  refine LW.pure (pc' := 555) (st' := [.long ((xs (nI (i + 2)).toNatClampNeg).toInt64), .int (xs (nI (i + 1)).toNatClampNeg), .ref 1]) (fun hl k => lv_i2l C.hx C.hb dL_law_554 rfl k) ?_
  refine LW.pure (pc' := 557) (st' := [.int 32, .long ((xs (nI (i + 2)).toNatClampNeg).toInt64), .int (xs (nI (i + 1)).toNatClampNeg), .ref 1]) (fun hl k => lv_bipush C.hx C.hb dL_law_555 (by decide) k) ?_
  refine LW.pure (pc' := 558) (st' := [.long (((xs (nI (i + 2)).toNatClampNeg).toInt64) <<< ((32 : Int32).toInt64 &&& 63)), .int (xs (nI (i + 1)).toNatClampNeg), .ref 1]) (fun hl k => lv_lshl C.hx C.hb dL_law_557 rfl k) ?_
  refine LW.pure (pc' := 559) (st' := [.ref 0, .long (((xs (nI (i + 2)).toNatClampNeg).toInt64) <<< ((32 : Int32).toInt64 &&& 63)), .int (xs (nI (i + 1)).toNatClampNeg), .ref 1]) (fun hl k => lv_aload_n C.hx C.hb dL_law_558 rfl (hl.get (j := 0) (v := .ref 0) rfl) k) ?_
  refine LW.pure (pc' := 560) (st' := [.int (nI i), .ref 0, .long (((xs (nI (i + 2)).toNatClampNeg).toInt64) <<< ((32 : Int32).toInt64 &&& 63)), .int (xs (nI (i + 1)).toNatClampNeg), .ref 1]) (fun hl k => lv_iload_n C.hx C.hb dL_law_559 rfl (hl.get (j := 3) (v := .int (nI i)) rfl) k) ?_
  refine LW.pure (pc' := 561) (st' := [.int 3, .int (nI i), .ref 0, .long (((xs (nI (i + 2)).toNatClampNeg).toInt64) <<< ((32 : Int32).toInt64 &&& 63)), .int (xs (nI (i + 1)).toNatClampNeg), .ref 1]) (fun hl k => lv_iconst C.hx C.hb dL_law_560 (by decide) k) ?_
  refine LW.pure (pc' := 562) (st' := [.int (nI (i + 3)), .ref 0, .long (((xs (nI (i + 2)).toNatClampNeg).toInt64) <<< ((32 : Int32).toInt64 &&& 63)), .int (xs (nI (i + 1)).toNatClampNeg), .ref 1]) (fun hl k => lv_iadd C.hx C.hb dL_law_561 (by rw [show nI i + 3 = nI (i + 3) from nI_add i 3]; exact k)) ?_
  refine LW.sld (pc' := 563) C (vp_in_nI (by omega) (by omega)) dL_law_562 rfl ?_
  refine LW.pure (pc' := 564) (st' := [.long ((xs (nI (i + 3)).toNatClampNeg).toInt64), .long (((xs (nI (i + 2)).toNatClampNeg).toInt64) <<< ((32 : Int32).toInt64 &&& 63)), .int (xs (nI (i + 1)).toNatClampNeg), .ref 1]) (fun hl k => lv_i2l C.hx C.hb dL_law_563 rfl k) ?_
  refine LW.pure (pc' := 567) (st' := [.long 4294967295, .long ((xs (nI (i + 3)).toNatClampNeg).toInt64), .long (((xs (nI (i + 2)).toNatClampNeg).toInt64) <<< ((32 : Int32).toInt64 &&& 63)), .int (xs (nI (i + 1)).toNatClampNeg), .ref 1]) (fun hl k => lv_ldc2 C.hx C.hb C.1.2.2.2.2.1 (C.tbs _ (tb7 147 (by decide +kernel) rfl)) dL_law_564 k) ?_
  refine LW.pure (pc' := 568) (st' := [.long (((xs (nI (i + 3)).toNatClampNeg).toInt64) &&& 4294967295), .long (((xs (nI (i + 2)).toNatClampNeg).toInt64) <<< ((32 : Int32).toInt64 &&& 63)), .int (xs (nI (i + 1)).toNatClampNeg), .ref 1]) (fun hl k => lv_land C.hx C.hb dL_law_567 k) ?_
  refine LW.pure (pc' := 569) (st' := [.long ((((xs (nI (i + 2)).toNatClampNeg).toInt64) <<< ((32 : Int32).toInt64 &&& 63)) ||| (((xs (nI (i + 3)).toNatClampNeg).toInt64) &&& 4294967295)), .int (xs (nI (i + 1)).toNatClampNeg), .ref 1]) (fun hl k => lv_lor C.hx C.hb dL_law_568 k) ?_
  refine lw_callX (M' := mX11_feed) (As := [.int (xs (nI (i + 1)).toNatClampNeg), .long ((((xs (nI (i + 2)).toNatClampNeg).toInt64) <<< ((32 : Int32).toInt64 &&& 63)) ||| (((xs (nI (i + 3)).toNatClampNeg).toInt64) &&& 4294967295))]) (st := []) (mc := 0) (ms := 0) (dd := 200) (pc' := 572) C ln_PlateRoundLaw_75 lb_X11_feed (by decide) (t_X11_feed (N := N) (d := 200) hWx (by decide) hTx r1 hf1) (by simp [nR]) hTx (by simp [nR]) (Nat.le_of_ble_eq_true rfl) rfl dL_law_569 rfl (by omega) (by omega) (fun r S' x' q v hv => by rw [q.1] at hv; cases hv; trivial) (fun r S' x' q _ => ?_)
  obtain ⟨rfl, rfl, rfl⟩ := q
  show LW p l e s m below meth c D ty σ0 b (kc + 0) (ks + 0) 572 [some (.ref 0), some (.ref 1), some (.ref 2), some (.int (nI i))] [.int r1.1] _ _ _ _
  refine LW.pure (pc' := 573) (st' := [.ref 2, .int r1.1]) (fun hl k => lv_aload_n C.hx C.hb dL_law_572 rfl (hl.get (j := 2) (v := .ref 2) rfl) k) ?_
  refine LW.pure (pc' := 574) (st' := [.ref 0, .ref 2, .int r1.1]) (fun hl k => lv_aload_n C.hx C.hb dL_law_573 rfl (hl.get (j := 0) (v := .ref 0) rfl) k) ?_
  refine LW.pure (pc' := 575) (st' := [.int (nI i), .ref 0, .ref 2, .int r1.1]) (fun hl k => lv_iload_n C.hx C.hb dL_law_574 rfl (hl.get (j := 3) (v := .int (nI i)) rfl) k) ?_
  refine LW.pure (pc' := 576) (st' := [.int 1, .int (nI i), .ref 0, .ref 2, .int r1.1]) (fun hl k => lv_iconst C.hx C.hb dL_law_575 (by decide) k) ?_
  refine LW.pure (pc' := 577) (st' := [.int (nI (i + 1)), .ref 0, .ref 2, .int r1.1]) (fun hl k => lv_iadd C.hx C.hb dL_law_576 (by rw [show nI i + 1 = nI (i + 1) from nI_add i 1]; exact k)) ?_
  refine LW.sld (pc' := 578) C (vp_in_nI (by omega) (by omega)) dL_law_577 rfl ?_
  refine LW.pure (pc' := 579) (st' := [.ref 0, .int (xs (nI (i + 1)).toNatClampNeg), .ref 2, .int r1.1]) (fun hl k => lv_aload_n C.hx C.hb dL_law_578 rfl (hl.get (j := 0) (v := .ref 0) rfl) k) ?_
  refine LW.pure (pc' := 580) (st' := [.int (nI i), .ref 0, .int (xs (nI (i + 1)).toNatClampNeg), .ref 2, .int r1.1]) (fun hl k => lv_iload_n C.hx C.hb dL_law_579 rfl (hl.get (j := 3) (v := .int (nI i)) rfl) k) ?_
  refine LW.pure (pc' := 581) (st' := [.int 2, .int (nI i), .ref 0, .int (xs (nI (i + 1)).toNatClampNeg), .ref 2, .int r1.1]) (fun hl k => lv_iconst C.hx C.hb dL_law_580 (by decide) k) ?_
  refine LW.pure (pc' := 582) (st' := [.int (nI (i + 2)), .ref 0, .int (xs (nI (i + 1)).toNatClampNeg), .ref 2, .int r1.1]) (fun hl k => lv_iadd C.hx C.hb dL_law_581 (by rw [show nI i + 2 = nI (i + 2) from nI_add i 2]; exact k)) ?_
  refine LW.sld (pc' := 583) C (vp_in_nI (by omega) (by omega)) dL_law_582 rfl ?_
  refine LW.pure (pc' := 584) (st' := [.long ((xs (nI (i + 2)).toNatClampNeg).toInt64), .int (xs (nI (i + 1)).toNatClampNeg), .ref 2, .int r1.1]) (fun hl k => lv_i2l C.hx C.hb dL_law_583 rfl k) ?_
  refine LW.pure (pc' := 586) (st' := [.int 32, .long ((xs (nI (i + 2)).toNatClampNeg).toInt64), .int (xs (nI (i + 1)).toNatClampNeg), .ref 2, .int r1.1]) (fun hl k => lv_bipush C.hx C.hb dL_law_584 (by decide) k) ?_
  refine LW.pure (pc' := 587) (st' := [.long (((xs (nI (i + 2)).toNatClampNeg).toInt64) <<< ((32 : Int32).toInt64 &&& 63)), .int (xs (nI (i + 1)).toNatClampNeg), .ref 2, .int r1.1]) (fun hl k => lv_lshl C.hx C.hb dL_law_586 rfl k) ?_
  refine LW.pure (pc' := 588) (st' := [.ref 0, .long (((xs (nI (i + 2)).toNatClampNeg).toInt64) <<< ((32 : Int32).toInt64 &&& 63)), .int (xs (nI (i + 1)).toNatClampNeg), .ref 2, .int r1.1]) (fun hl k => lv_aload_n C.hx C.hb dL_law_587 rfl (hl.get (j := 0) (v := .ref 0) rfl) k) ?_
  refine LW.pure (pc' := 589) (st' := [.int (nI i), .ref 0, .long (((xs (nI (i + 2)).toNatClampNeg).toInt64) <<< ((32 : Int32).toInt64 &&& 63)), .int (xs (nI (i + 1)).toNatClampNeg), .ref 2, .int r1.1]) (fun hl k => lv_iload_n C.hx C.hb dL_law_588 rfl (hl.get (j := 3) (v := .int (nI i)) rfl) k) ?_
  refine LW.pure (pc' := 590) (st' := [.int 3, .int (nI i), .ref 0, .long (((xs (nI (i + 2)).toNatClampNeg).toInt64) <<< ((32 : Int32).toInt64 &&& 63)), .int (xs (nI (i + 1)).toNatClampNeg), .ref 2, .int r1.1]) (fun hl k => lv_iconst C.hx C.hb dL_law_589 (by decide) k) ?_
  refine LW.pure (pc' := 591) (st' := [.int (nI (i + 3)), .ref 0, .long (((xs (nI (i + 2)).toNatClampNeg).toInt64) <<< ((32 : Int32).toInt64 &&& 63)), .int (xs (nI (i + 1)).toNatClampNeg), .ref 2, .int r1.1]) (fun hl k => lv_iadd C.hx C.hb dL_law_590 (by rw [show nI i + 3 = nI (i + 3) from nI_add i 3]; exact k)) ?_
  refine LW.sld (pc' := 592) C (vp_in_nI (by omega) (by omega)) dL_law_591 rfl ?_
  refine LW.pure (pc' := 593) (st' := [.long ((xs (nI (i + 3)).toNatClampNeg).toInt64), .long (((xs (nI (i + 2)).toNatClampNeg).toInt64) <<< ((32 : Int32).toInt64 &&& 63)), .int (xs (nI (i + 1)).toNatClampNeg), .ref 2, .int r1.1]) (fun hl k => lv_i2l C.hx C.hb dL_law_592 rfl k) ?_
  refine LW.pure (pc' := 596) (st' := [.long 4294967295, .long ((xs (nI (i + 3)).toNatClampNeg).toInt64), .long (((xs (nI (i + 2)).toNatClampNeg).toInt64) <<< ((32 : Int32).toInt64 &&& 63)), .int (xs (nI (i + 1)).toNatClampNeg), .ref 2, .int r1.1]) (fun hl k => lv_ldc2 C.hx C.hb C.1.2.2.2.2.1 (C.tbs _ (tb7 147 (by decide +kernel) rfl)) dL_law_593 k) ?_
  refine LW.pure (pc' := 597) (st' := [.long (((xs (nI (i + 3)).toNatClampNeg).toInt64) &&& 4294967295), .long (((xs (nI (i + 2)).toNatClampNeg).toInt64) <<< ((32 : Int32).toInt64 &&& 63)), .int (xs (nI (i + 1)).toNatClampNeg), .ref 2, .int r1.1]) (fun hl k => lv_land C.hx C.hb dL_law_596 k) ?_
  refine LW.pure (pc' := 598) (st' := [.long ((((xs (nI (i + 2)).toNatClampNeg).toInt64) <<< ((32 : Int32).toInt64 &&& 63)) ||| (((xs (nI (i + 3)).toNatClampNeg).toInt64) &&& 4294967295)), .int (xs (nI (i + 1)).toNatClampNeg), .ref 2, .int r1.1]) (fun hl k => lv_lor C.hx C.hb dL_law_597 k) ?_
  refine lw_callM (M' := mX12_feed) (As := [.int (xs (nI (i + 1)).toNatClampNeg), .long ((((xs (nI (i + 2)).toNatClampNeg).toInt64) <<< ((32 : Int32).toInt64 &&& 63)) ||| (((xs (nI (i + 3)).toNatClampNeg).toInt64) &&& 4294967295))]) (st := [.int r1.1]) (mc := 0) (ms := 0) (dd := 200) (pc' := 601) C ln_PlateRoundLaw_79 lb_X12_feed (by decide) (t_X12_feed (N := N) (d := 200) hWm (by decide) hTm r2 hf2) (by simp [nR]) hTm (by simp [nR]) (Nat.le_of_ble_eq_true rfl) rfl dL_law_598 rfl (by omega) (by omega) (fun r S' x' q v hv => by rw [q.1] at hv; cases hv; trivial) (fun r S' x' q _ => ?_)
  obtain ⟨rfl, rfl, rfl⟩ := q
  show LW p l e s m below meth c D ty σ0 b ((kc + 0) + 0) ((ks + 0) + 0) 601 [some (.ref 0), some (.ref 1), some (.ref 2), some (.int (nI i))] [.int r2.1, .int r1.1] _ _ _ _
  refine LW.br (c1 := r1.1 = r2.1) (pc1 := 1159) (pc' := 604) (st' := []) (fun kt kf => lv_icmp_eq C.hx C.hb dL_law_601 (by decide) kt kf) (fun _ => ?_) (fun h => absurd e1.symm h)
  exact LW.widen (by omega) (by omega) (back _ _ _ hR')
set_option maxHeartbeats 2000000 in
theorem law_case13 (C : LC p s m meth c b L xs D ty σ0) (hL : L ≤ 2561) (hO : LAWOK N R) {cc i kc ks : Nat} {Sx Sm : SH} {xx xm : DY} (hc : cc < 512) (hR : R cc Sx xx Sm xm) (hi : i + 5 ≤ L) (hkc : kc + 4 ≤ 600000) (hks : ks + 483 ≤ 7302250)
    (back : ∀ S' x' y', R (cc + 1) S' x' Sm y' → LW p l e s m below meth c D ty σ0 b (kc + 4) (ks + 483) 1159 [some (.ref 0), some (.ref 1), some (.ref 2), some (.int (nI i))] [] S' x' Sm y') : LW p l e s m below meth c D ty σ0 b kc ks 606 [some (.ref 0), some (.ref 1), some (.ref 2), some (.int (nI i))] [] Sx xx Sm xm := by
  obtain ⟨v, S', x', y', hgx, hgm, hR'⟩ := hO.2 cc Sx xx Sm xm 13 (xs (nI (i + 1)).toNatClampNeg) (xs (nI (i + 2)).toNatClampNeg) (xs (nI (i + 3)).toNatClampNeg) (xs (nI (i + 4)).toNatClampNeg) hc (by decide) hR
  obtain ⟨r1, hf1, he1⟩ := Option.map_eq_some_iff.mp hgx
  obtain ⟨r2, hf2, he2⟩ := Option.map_eq_some_iff.mp hgm
  cases he1
  have e1 := Value.int.inj (Option.some.inj (congrArg Prod.fst he2))
  have e2 := congrArg Prod.snd he2
  dsimp only at e1 e2
  subst e2
  obtain ⟨hWx, hTx, hWm, hTm⟩ := hO.1 cc Sx xx Sm xm hR
  refine LW.pure (pc' := 607) (st' := [.ref 1]) (fun hl k => lv_aload_n C.hx C.hb dL_law_606 rfl (hl.get (j := 1) (v := .ref 1) rfl) k) ?_
  refine lw_callX (M' := mX11_text) (As := []) (st := []) (mc := 4) (ms := 483) (dd := 200) (pc' := 610) C ln_PlateRoundLaw_80 lb_X11_text (by decide) (tA_X11_text (N := N) (d := 200) hWx (by decide) r1 hf1) (by simp [nR]) hTx (by simp [nR]) (Nat.le_of_ble_eq_true rfl) rfl dL_law_607 rfl (by omega) (by omega) (fun r S' x' q v hv => by rw [q.1] at hv; cases hv; trivial) (fun r S' x' q _ => ?_)
  obtain ⟨rfl, rfl, rfl⟩ := q
  show LW p l e s m below meth c D ty σ0 b (kc + 4) (ks + 483) 610 [some (.ref 0), some (.ref 1), some (.ref 2), some (.int (nI i))] [.int r1.1] _ _ _ _
  refine LW.pure (pc' := 611) (st' := [.ref 2, .int r1.1]) (fun hl k => lv_aload_n C.hx C.hb dL_law_610 rfl (hl.get (j := 2) (v := .ref 2) rfl) k) ?_
  refine lw_callM (M' := mX12_text) (As := []) (st := [.int r1.1]) (mc := 0) (ms := 0) (dd := 200) (pc' := 614) C ln_PlateRoundLaw_84 lb_X12_text (by decide) (t_X12_text (N := N) (d := 200) hWm (by decide) hTm r2 hf2) (by simp [nR]) hTm (by simp [nR]) (Nat.le_of_ble_eq_true rfl) rfl dL_law_611 rfl (by omega) (by omega) (fun r S' x' q v hv => by rw [q.1] at hv; cases hv; trivial) (fun r S' x' q _ => ?_)
  obtain ⟨rfl, rfl, rfl⟩ := q
  show LW p l e s m below meth c D ty σ0 b ((kc + 4) + 0) ((ks + 483) + 0) 614 [some (.ref 0), some (.ref 1), some (.ref 2), some (.int (nI i))] [.int r2.1, .int r1.1] _ _ _ _
  refine LW.br (c1 := r1.1 = r2.1) (pc1 := 1159) (pc' := 617) (st' := []) (fun kt kf => lv_icmp_eq C.hx C.hb dL_law_614 (by decide) kt kf) (fun _ => ?_) (fun h => absurd e1.symm h)
  exact LW.widen (by omega) (by omega) (back _ _ _ hR')
set_option maxHeartbeats 2000000 in
theorem law_case14 (C : LC p s m meth c b L xs D ty σ0) (hL : L ≤ 2561) (hO : LAWOK N R) {cc i kc ks : Nat} {Sx Sm : SH} {xx xm : DY} (hc : cc < 512) (hR : R cc Sx xx Sm xm) (hi : i + 5 ≤ L) (hkc : kc + 4 ≤ 600000) (hks : ks + 483 ≤ 7302250)
    (back : ∀ S' x' y', R (cc + 1) S' x' Sm y' → LW p l e s m below meth c D ty σ0 b (kc + 4) (ks + 483) 1159 [some (.ref 0), some (.ref 1), some (.ref 2), some (.int (nI i))] [] S' x' Sm y') : LW p l e s m below meth c D ty σ0 b kc ks 619 [some (.ref 0), some (.ref 1), some (.ref 2), some (.int (nI i))] [] Sx xx Sm xm := by
  obtain ⟨v, S', x', y', hgx, hgm, hR'⟩ := hO.2 cc Sx xx Sm xm 14 (xs (nI (i + 1)).toNatClampNeg) (xs (nI (i + 2)).toNatClampNeg) (xs (nI (i + 3)).toNatClampNeg) (xs (nI (i + 4)).toNatClampNeg) hc (by decide) hR
  obtain ⟨r1, hf1, he1⟩ := Option.map_eq_some_iff.mp hgx
  obtain ⟨r2, hf2, he2⟩ := Option.map_eq_some_iff.mp hgm
  cases he1
  have e1 := Value.int.inj (Option.some.inj (congrArg Prod.fst he2))
  have e2 := congrArg Prod.snd he2
  dsimp only at e1 e2
  subst e2
  obtain ⟨hWx, hTx, hWm, hTm⟩ := hO.1 cc Sx xx Sm xm hR
  refine LW.pure (pc' := 620) (st' := [.ref 1]) (fun hl k => lv_aload_n C.hx C.hb dL_law_619 rfl (hl.get (j := 1) (v := .ref 1) rfl) k) ?_
  refine LW.pure (pc' := 621) (st' := [.ref 0, .ref 1]) (fun hl k => lv_aload_n C.hx C.hb dL_law_620 rfl (hl.get (j := 0) (v := .ref 0) rfl) k) ?_
  refine LW.pure (pc' := 622) (st' := [.int (nI i), .ref 0, .ref 1]) (fun hl k => lv_iload_n C.hx C.hb dL_law_621 rfl (hl.get (j := 3) (v := .int (nI i)) rfl) k) ?_
  refine LW.pure (pc' := 623) (st' := [.int 1, .int (nI i), .ref 0, .ref 1]) (fun hl k => lv_iconst C.hx C.hb dL_law_622 (by decide) k) ?_
  refine LW.pure (pc' := 624) (st' := [.int (nI (i + 1)), .ref 0, .ref 1]) (fun hl k => lv_iadd C.hx C.hb dL_law_623 (by rw [show nI i + 1 = nI (i + 1) from nI_add i 1]; exact k)) ?_
  refine LW.sld (pc' := 625) C (vp_in_nI (by omega) (by omega)) dL_law_624 rfl ?_
  refine lw_callX (M' := mX11_force) (As := [.int (xs (nI (i + 1)).toNatClampNeg)]) (st := []) (mc := 0) (ms := 0) (dd := 200) (pc' := 628) C ln_PlateRoundLaw_85 lb_X11_force (by decide) (tA_X11_force (N := N) (d := 200) (by decide) r1 hf1) (by simp [nR]) hTx (by simp [nR]) (Nat.le_of_ble_eq_true rfl) rfl dL_law_625 rfl (by omega) (by omega) (fun r S' x' q v hv => by rw [q.1] at hv; cases hv; trivial) (fun r S' x' q _ => ?_)
  obtain ⟨rfl, rfl, rfl⟩ := q
  show LW p l e s m below meth c D ty σ0 b (kc + 0) (ks + 0) 628 [some (.ref 0), some (.ref 1), some (.ref 2), some (.int (nI i))] [.int r1.1] _ _ _ _
  refine LW.pure (pc' := 629) (st' := [.ref 2, .int r1.1]) (fun hl k => lv_aload_n C.hx C.hb dL_law_628 rfl (hl.get (j := 2) (v := .ref 2) rfl) k) ?_
  refine LW.pure (pc' := 630) (st' := [.ref 0, .ref 2, .int r1.1]) (fun hl k => lv_aload_n C.hx C.hb dL_law_629 rfl (hl.get (j := 0) (v := .ref 0) rfl) k) ?_
  refine LW.pure (pc' := 631) (st' := [.int (nI i), .ref 0, .ref 2, .int r1.1]) (fun hl k => lv_iload_n C.hx C.hb dL_law_630 rfl (hl.get (j := 3) (v := .int (nI i)) rfl) k) ?_
  refine LW.pure (pc' := 632) (st' := [.int 1, .int (nI i), .ref 0, .ref 2, .int r1.1]) (fun hl k => lv_iconst C.hx C.hb dL_law_631 (by decide) k) ?_
  refine LW.pure (pc' := 633) (st' := [.int (nI (i + 1)), .ref 0, .ref 2, .int r1.1]) (fun hl k => lv_iadd C.hx C.hb dL_law_632 (by rw [show nI i + 1 = nI (i + 1) from nI_add i 1]; exact k)) ?_
  refine LW.sld (pc' := 634) C (vp_in_nI (by omega) (by omega)) dL_law_633 rfl ?_
  refine lw_callM (M' := mX12_force) (As := [.int (xs (nI (i + 1)).toNatClampNeg)]) (st := [.int r1.1]) (mc := 0) (ms := 0) (dd := 200) (pc' := 637) C ln_PlateRoundLaw_88 lb_X12_force (by decide) (t_X12_force (N := N) (d := 200) hWm (by decide) hTm r2 hf2) (by simp [nR]) hTm (by simp [nR]) (Nat.le_of_ble_eq_true rfl) rfl dL_law_634 rfl (by omega) (by omega) (fun r S' x' q v hv => by rw [q.1] at hv; cases hv; trivial) (fun r S' x' q _ => ?_)
  obtain ⟨rfl, rfl, rfl⟩ := q
  show LW p l e s m below meth c D ty σ0 b ((kc + 0) + 0) ((ks + 0) + 0) 637 [some (.ref 0), some (.ref 1), some (.ref 2), some (.int (nI i))] [.int r2.1, .int r1.1] _ _ _ _
  refine LW.br (c1 := r1.1 = r2.1) (pc1 := 1159) (pc' := 640) (st' := []) (fun kt kf => lv_icmp_eq C.hx C.hb dL_law_637 (by decide) kt kf) (fun _ => ?_) (fun h => absurd e1.symm h)
  exact LW.widen (by omega) (by omega) (back _ _ _ hR')
set_option maxHeartbeats 2000000 in
theorem law_case15 (C : LC p s m meth c b L xs D ty σ0) (hL : L ≤ 2561) (hO : LAWOK N R) {cc i kc ks : Nat} {Sx Sm : SH} {xx xm : DY} (hc : cc < 512) (hR : R cc Sx xx Sm xm) (hi : i + 5 ≤ L) (hkc : kc + 4 ≤ 600000) (hks : ks + 483 ≤ 7302250)
    (back : ∀ S' x' y', R (cc + 1) S' x' Sm y' → LW p l e s m below meth c D ty σ0 b (kc + 4) (ks + 483) 1159 [some (.ref 0), some (.ref 1), some (.ref 2), some (.int (nI i))] [] S' x' Sm y') : LW p l e s m below meth c D ty σ0 b kc ks 642 [some (.ref 0), some (.ref 1), some (.ref 2), some (.int (nI i))] [] Sx xx Sm xm := by
  obtain ⟨v, S', x', y', hgx, hgm, hR'⟩ := hO.2 cc Sx xx Sm xm 15 (xs (nI (i + 1)).toNatClampNeg) (xs (nI (i + 2)).toNatClampNeg) (xs (nI (i + 3)).toNatClampNeg) (xs (nI (i + 4)).toNatClampNeg) hc (by decide) hR
  obtain ⟨r1, hf1, he1⟩ := Option.map_eq_some_iff.mp hgx
  obtain ⟨r2, hf2, he2⟩ := Option.map_eq_some_iff.mp hgm
  cases he1
  have e1 := Value.long.inj (Option.some.inj (congrArg Prod.fst he2))
  have e2 := congrArg Prod.snd he2
  dsimp only at e1 e2
  subst e2
  obtain ⟨hWx, hTx, hWm, hTm⟩ := hO.1 cc Sx xx Sm xm hR
  refine LW.pure (pc' := 643) (st' := [.ref 1]) (fun hl k => lv_aload_n C.hx C.hb dL_law_642 rfl (hl.get (j := 1) (v := .ref 1) rfl) k) ?_
  refine LW.pure (pc' := 644) (st' := [.ref 0, .ref 1]) (fun hl k => lv_aload_n C.hx C.hb dL_law_643 rfl (hl.get (j := 0) (v := .ref 0) rfl) k) ?_
  refine LW.pure (pc' := 645) (st' := [.int (nI i), .ref 0, .ref 1]) (fun hl k => lv_iload_n C.hx C.hb dL_law_644 rfl (hl.get (j := 3) (v := .int (nI i)) rfl) k) ?_
  refine LW.pure (pc' := 646) (st' := [.int 1, .int (nI i), .ref 0, .ref 1]) (fun hl k => lv_iconst C.hx C.hb dL_law_645 (by decide) k) ?_
  refine LW.pure (pc' := 647) (st' := [.int (nI (i + 1)), .ref 0, .ref 1]) (fun hl k => lv_iadd C.hx C.hb dL_law_646 (by rw [show nI i + 1 = nI (i + 1) from nI_add i 1]; exact k)) ?_
  refine LW.sld (pc' := 648) C (vp_in_nI (by omega) (by omega)) dL_law_647 rfl ?_
  refine LW.pure (pc' := 649) (st' := [.ref 0, .int (xs (nI (i + 1)).toNatClampNeg), .ref 1]) (fun hl k => lv_aload_n C.hx C.hb dL_law_648 rfl (hl.get (j := 0) (v := .ref 0) rfl) k) ?_
  refine LW.pure (pc' := 650) (st' := [.int (nI i), .ref 0, .int (xs (nI (i + 1)).toNatClampNeg), .ref 1]) (fun hl k => lv_iload_n C.hx C.hb dL_law_649 rfl (hl.get (j := 3) (v := .int (nI i)) rfl) k) ?_
  refine LW.pure (pc' := 651) (st' := [.int 2, .int (nI i), .ref 0, .int (xs (nI (i + 1)).toNatClampNeg), .ref 1]) (fun hl k => lv_iconst C.hx C.hb dL_law_650 (by decide) k) ?_
  refine LW.pure (pc' := 652) (st' := [.int (nI (i + 2)), .ref 0, .int (xs (nI (i + 1)).toNatClampNeg), .ref 1]) (fun hl k => lv_iadd C.hx C.hb dL_law_651 (by rw [show nI i + 2 = nI (i + 2) from nI_add i 2]; exact k)) ?_
  refine LW.sld (pc' := 653) C (vp_in_nI (by omega) (by omega)) dL_law_652 rfl ?_
  refine LW.pure (pc' := 654) (st' := [.ref 0, .int (xs (nI (i + 2)).toNatClampNeg), .int (xs (nI (i + 1)).toNatClampNeg), .ref 1]) (fun hl k => lv_aload_n C.hx C.hb dL_law_653 rfl (hl.get (j := 0) (v := .ref 0) rfl) k) ?_
  refine LW.pure (pc' := 655) (st' := [.int (nI i), .ref 0, .int (xs (nI (i + 2)).toNatClampNeg), .int (xs (nI (i + 1)).toNatClampNeg), .ref 1]) (fun hl k => lv_iload_n C.hx C.hb dL_law_654 rfl (hl.get (j := 3) (v := .int (nI i)) rfl) k) ?_
  refine LW.pure (pc' := 656) (st' := [.int 3, .int (nI i), .ref 0, .int (xs (nI (i + 2)).toNatClampNeg), .int (xs (nI (i + 1)).toNatClampNeg), .ref 1]) (fun hl k => lv_iconst C.hx C.hb dL_law_655 (by decide) k) ?_
  refine LW.pure (pc' := 657) (st' := [.int (nI (i + 3)), .ref 0, .int (xs (nI (i + 2)).toNatClampNeg), .int (xs (nI (i + 1)).toNatClampNeg), .ref 1]) (fun hl k => lv_iadd C.hx C.hb dL_law_656 (by rw [show nI i + 3 = nI (i + 3) from nI_add i 3]; exact k)) ?_
  refine LW.sld (pc' := 658) C (vp_in_nI (by omega) (by omega)) dL_law_657 rfl ?_
  refine lw_callX (M' := mX11_says) (As := [.int (xs (nI (i + 1)).toNatClampNeg), .int (xs (nI (i + 2)).toNatClampNeg), .int (xs (nI (i + 3)).toNatClampNeg)]) (st := []) (mc := 0) (ms := 0) (dd := 200) (pc' := 661) C ln_PlateRoundLaw_89 lb_X11_says (by decide) (t_X11_says (N := N) (d := 200) hWx (by decide) hTx r1 hf1) (by simp [nR]) hTx (by simp [nR]) (Nat.le_of_ble_eq_true rfl) rfl dL_law_658 rfl (by omega) (by omega) (fun r S' x' q v hv => by rw [q.1] at hv; cases hv; trivial) (fun r S' x' q _ => ?_)
  obtain ⟨rfl, rfl, rfl⟩ := q
  show LW p l e s m below meth c D ty σ0 b (kc + 0) (ks + 0) 661 [some (.ref 0), some (.ref 1), some (.ref 2), some (.int (nI i))] [.long r1.1] _ _ _ _
  refine LW.pure (pc' := 662) (st' := [.ref 2, .long r1.1]) (fun hl k => lv_aload_n C.hx C.hb dL_law_661 rfl (hl.get (j := 2) (v := .ref 2) rfl) k) ?_
  refine LW.pure (pc' := 663) (st' := [.ref 0, .ref 2, .long r1.1]) (fun hl k => lv_aload_n C.hx C.hb dL_law_662 rfl (hl.get (j := 0) (v := .ref 0) rfl) k) ?_
  refine LW.pure (pc' := 664) (st' := [.int (nI i), .ref 0, .ref 2, .long r1.1]) (fun hl k => lv_iload_n C.hx C.hb dL_law_663 rfl (hl.get (j := 3) (v := .int (nI i)) rfl) k) ?_
  refine LW.pure (pc' := 665) (st' := [.int 1, .int (nI i), .ref 0, .ref 2, .long r1.1]) (fun hl k => lv_iconst C.hx C.hb dL_law_664 (by decide) k) ?_
  refine LW.pure (pc' := 666) (st' := [.int (nI (i + 1)), .ref 0, .ref 2, .long r1.1]) (fun hl k => lv_iadd C.hx C.hb dL_law_665 (by rw [show nI i + 1 = nI (i + 1) from nI_add i 1]; exact k)) ?_
  refine LW.sld (pc' := 667) C (vp_in_nI (by omega) (by omega)) dL_law_666 rfl ?_
  refine LW.pure (pc' := 668) (st' := [.ref 0, .int (xs (nI (i + 1)).toNatClampNeg), .ref 2, .long r1.1]) (fun hl k => lv_aload_n C.hx C.hb dL_law_667 rfl (hl.get (j := 0) (v := .ref 0) rfl) k) ?_
  refine LW.pure (pc' := 669) (st' := [.int (nI i), .ref 0, .int (xs (nI (i + 1)).toNatClampNeg), .ref 2, .long r1.1]) (fun hl k => lv_iload_n C.hx C.hb dL_law_668 rfl (hl.get (j := 3) (v := .int (nI i)) rfl) k) ?_
  refine LW.pure (pc' := 670) (st' := [.int 2, .int (nI i), .ref 0, .int (xs (nI (i + 1)).toNatClampNeg), .ref 2, .long r1.1]) (fun hl k => lv_iconst C.hx C.hb dL_law_669 (by decide) k) ?_
  refine LW.pure (pc' := 671) (st' := [.int (nI (i + 2)), .ref 0, .int (xs (nI (i + 1)).toNatClampNeg), .ref 2, .long r1.1]) (fun hl k => lv_iadd C.hx C.hb dL_law_670 (by rw [show nI i + 2 = nI (i + 2) from nI_add i 2]; exact k)) ?_
  refine LW.sld (pc' := 672) C (vp_in_nI (by omega) (by omega)) dL_law_671 rfl ?_
  refine LW.pure (pc' := 673) (st' := [.ref 0, .int (xs (nI (i + 2)).toNatClampNeg), .int (xs (nI (i + 1)).toNatClampNeg), .ref 2, .long r1.1]) (fun hl k => lv_aload_n C.hx C.hb dL_law_672 rfl (hl.get (j := 0) (v := .ref 0) rfl) k) ?_
  refine LW.pure (pc' := 674) (st' := [.int (nI i), .ref 0, .int (xs (nI (i + 2)).toNatClampNeg), .int (xs (nI (i + 1)).toNatClampNeg), .ref 2, .long r1.1]) (fun hl k => lv_iload_n C.hx C.hb dL_law_673 rfl (hl.get (j := 3) (v := .int (nI i)) rfl) k) ?_
  refine LW.pure (pc' := 675) (st' := [.int 3, .int (nI i), .ref 0, .int (xs (nI (i + 2)).toNatClampNeg), .int (xs (nI (i + 1)).toNatClampNeg), .ref 2, .long r1.1]) (fun hl k => lv_iconst C.hx C.hb dL_law_674 (by decide) k) ?_
  refine LW.pure (pc' := 676) (st' := [.int (nI (i + 3)), .ref 0, .int (xs (nI (i + 2)).toNatClampNeg), .int (xs (nI (i + 1)).toNatClampNeg), .ref 2, .long r1.1]) (fun hl k => lv_iadd C.hx C.hb dL_law_675 (by rw [show nI i + 3 = nI (i + 3) from nI_add i 3]; exact k)) ?_
  refine LW.sld (pc' := 677) C (vp_in_nI (by omega) (by omega)) dL_law_676 rfl ?_
  refine lw_callM (M' := mX12_says) (As := [.int (xs (nI (i + 1)).toNatClampNeg), .int (xs (nI (i + 2)).toNatClampNeg), .int (xs (nI (i + 3)).toNatClampNeg)]) (st := [.long r1.1]) (mc := 0) (ms := 0) (dd := 200) (pc' := 680) C ln_PlateRoundLaw_93 lb_X12_says (by decide) (t_X12_says (N := N) (d := 200) hWm (by decide) hTm r2 hf2) (by simp [nR]) hTm (by simp [nR]) (Nat.le_of_ble_eq_true rfl) rfl dL_law_677 rfl (by omega) (by omega) (fun r S' x' q v hv => by rw [q.1] at hv; cases hv; trivial) (fun r S' x' q _ => ?_)
  obtain ⟨rfl, rfl, rfl⟩ := q
  show LW p l e s m below meth c D ty σ0 b ((kc + 0) + 0) ((ks + 0) + 0) 680 [some (.ref 0), some (.ref 1), some (.ref 2), some (.int (nI i))] [.long r2.1, .long r1.1] _ _ _ _
  refine LW.pure (pc' := 681) (st' := [.int (lg_cmp r1.1 r2.1)]) (fun hl k => W.lcmp C.hx C.hb dL_law_680 k) ?_
  refine LW.br (c1 := lg_cmp r1.1 r2.1 = 0) (pc1 := 1159) (pc' := 684) (st' := []) (fun kt kf => lv_if_eq C.hx C.hb dL_law_681 (by decide) kt kf) (fun _ => ?_) (fun h => absurd (by rw [e1]; exact lg_self _) h)
  exact LW.widen (by omega) (by omega) (back _ _ _ hR')
set_option maxHeartbeats 2000000 in
theorem law_case16 (C : LC p s m meth c b L xs D ty σ0) (hL : L ≤ 2561) (hO : LAWOK N R) {cc i kc ks : Nat} {Sx Sm : SH} {xx xm : DY} (hc : cc < 512) (hR : R cc Sx xx Sm xm) (hi : i + 5 ≤ L) (hkc : kc + 4 ≤ 600000) (hks : ks + 483 ≤ 7302250)
    (back : ∀ S' x' y', R (cc + 1) S' x' Sm y' → LW p l e s m below meth c D ty σ0 b (kc + 4) (ks + 483) 1159 [some (.ref 0), some (.ref 1), some (.ref 2), some (.int (nI i))] [] S' x' Sm y') : LW p l e s m below meth c D ty σ0 b kc ks 686 [some (.ref 0), some (.ref 1), some (.ref 2), some (.int (nI i))] [] Sx xx Sm xm := by
  obtain ⟨v, S', x', y', hgx, hgm, hR'⟩ := hO.2 cc Sx xx Sm xm 16 (xs (nI (i + 1)).toNatClampNeg) (xs (nI (i + 2)).toNatClampNeg) (xs (nI (i + 3)).toNatClampNeg) (xs (nI (i + 4)).toNatClampNeg) hc (by decide) hR
  obtain ⟨r1, hf1, he1⟩ := Option.map_eq_some_iff.mp hgx
  obtain ⟨r2, hf2, he2⟩ := Option.map_eq_some_iff.mp hgm
  cases he1
  have e1 := Value.int.inj (Option.some.inj (congrArg Prod.fst he2))
  have e2 := congrArg Prod.snd he2
  dsimp only at e1 e2
  subst e2
  obtain ⟨hWx, hTx, hWm, hTm⟩ := hO.1 cc Sx xx Sm xm hR
  refine LW.pure (pc' := 687) (st' := [.ref 1]) (fun hl k => lv_aload_n C.hx C.hb dL_law_686 rfl (hl.get (j := 1) (v := .ref 1) rfl) k) ?_
  refine LW.pure (pc' := 688) (st' := [.ref 0, .ref 1]) (fun hl k => lv_aload_n C.hx C.hb dL_law_687 rfl (hl.get (j := 0) (v := .ref 0) rfl) k) ?_
  refine LW.pure (pc' := 689) (st' := [.int (nI i), .ref 0, .ref 1]) (fun hl k => lv_iload_n C.hx C.hb dL_law_688 rfl (hl.get (j := 3) (v := .int (nI i)) rfl) k) ?_
  refine LW.pure (pc' := 690) (st' := [.int 1, .int (nI i), .ref 0, .ref 1]) (fun hl k => lv_iconst C.hx C.hb dL_law_689 (by decide) k) ?_
  refine LW.pure (pc' := 691) (st' := [.int (nI (i + 1)), .ref 0, .ref 1]) (fun hl k => lv_iadd C.hx C.hb dL_law_690 (by rw [show nI i + 1 = nI (i + 1) from nI_add i 1]; exact k)) ?_
  refine LW.sld (pc' := 692) C (vp_in_nI (by omega) (by omega)) dL_law_691 rfl ?_
  refine lw_callX (M' := mX11_tick) (As := [.int (xs (nI (i + 1)).toNatClampNeg)]) (st := []) (mc := 0) (ms := 0) (dd := 200) (pc' := 695) C ln_PlateRoundLaw_94 lb_X11_tick (by decide) (t_X11_tick (N := N) (d := 200) hWx (by decide) hTx r1 hf1) (by simp [nR]) hTx (by simp [nR]) (Nat.le_of_ble_eq_true rfl) rfl dL_law_692 rfl (by omega) (by omega) (fun r S' x' q v hv => by rw [q.1] at hv; cases hv; trivial) (fun r S' x' q _ => ?_)
  obtain ⟨rfl, rfl, rfl⟩ := q
  show LW p l e s m below meth c D ty σ0 b (kc + 0) (ks + 0) 695 [some (.ref 0), some (.ref 1), some (.ref 2), some (.int (nI i))] [.int r1.1] _ _ _ _
  refine LW.pure (pc' := 696) (st' := [.ref 2, .int r1.1]) (fun hl k => lv_aload_n C.hx C.hb dL_law_695 rfl (hl.get (j := 2) (v := .ref 2) rfl) k) ?_
  refine LW.pure (pc' := 697) (st' := [.ref 0, .ref 2, .int r1.1]) (fun hl k => lv_aload_n C.hx C.hb dL_law_696 rfl (hl.get (j := 0) (v := .ref 0) rfl) k) ?_
  refine LW.pure (pc' := 698) (st' := [.int (nI i), .ref 0, .ref 2, .int r1.1]) (fun hl k => lv_iload_n C.hx C.hb dL_law_697 rfl (hl.get (j := 3) (v := .int (nI i)) rfl) k) ?_
  refine LW.pure (pc' := 699) (st' := [.int 1, .int (nI i), .ref 0, .ref 2, .int r1.1]) (fun hl k => lv_iconst C.hx C.hb dL_law_698 (by decide) k) ?_
  refine LW.pure (pc' := 700) (st' := [.int (nI (i + 1)), .ref 0, .ref 2, .int r1.1]) (fun hl k => lv_iadd C.hx C.hb dL_law_699 (by rw [show nI i + 1 = nI (i + 1) from nI_add i 1]; exact k)) ?_
  refine LW.sld (pc' := 701) C (vp_in_nI (by omega) (by omega)) dL_law_700 rfl ?_
  refine lw_callM (M' := mX12_tick) (As := [.int (xs (nI (i + 1)).toNatClampNeg)]) (st := [.int r1.1]) (mc := 0) (ms := 0) (dd := 200) (pc' := 704) C ln_PlateRoundLaw_97 lb_X12_tick (by decide) (t_X12_tick (N := N) (d := 200) hWm (by decide) hTm r2 hf2) (by simp [nR]) hTm (by simp [nR]) (Nat.le_of_ble_eq_true rfl) rfl dL_law_701 rfl (by omega) (by omega) (fun r S' x' q v hv => by rw [q.1] at hv; cases hv; trivial) (fun r S' x' q _ => ?_)
  obtain ⟨rfl, rfl, rfl⟩ := q
  show LW p l e s m below meth c D ty σ0 b ((kc + 0) + 0) ((ks + 0) + 0) 704 [some (.ref 0), some (.ref 1), some (.ref 2), some (.int (nI i))] [.int r2.1, .int r1.1] _ _ _ _
  refine LW.br (c1 := r1.1 = r2.1) (pc1 := 1159) (pc' := 707) (st' := []) (fun kt kf => lv_icmp_eq C.hx C.hb dL_law_704 (by decide) kt kf) (fun _ => ?_) (fun h => absurd e1.symm h)
  exact LW.widen (by omega) (by omega) (back _ _ _ hR')
set_option maxHeartbeats 2000000 in
theorem law_case17 (C : LC p s m meth c b L xs D ty σ0) (hL : L ≤ 2561) (hO : LAWOK N R) {cc i kc ks : Nat} {Sx Sm : SH} {xx xm : DY} (hc : cc < 512) (hR : R cc Sx xx Sm xm) (hi : i + 5 ≤ L) (hkc : kc + 4 ≤ 600000) (hks : ks + 483 ≤ 7302250)
    (back : ∀ S' x' y', R (cc + 1) S' x' Sm y' → LW p l e s m below meth c D ty σ0 b (kc + 4) (ks + 483) 1159 [some (.ref 0), some (.ref 1), some (.ref 2), some (.int (nI i))] [] S' x' Sm y') : LW p l e s m below meth c D ty σ0 b kc ks 709 [some (.ref 0), some (.ref 1), some (.ref 2), some (.int (nI i))] [] Sx xx Sm xm := by
  obtain ⟨v, S', x', y', hgx, hgm, hR'⟩ := hO.2 cc Sx xx Sm xm 17 (xs (nI (i + 1)).toNatClampNeg) (xs (nI (i + 2)).toNatClampNeg) (xs (nI (i + 3)).toNatClampNeg) (xs (nI (i + 4)).toNatClampNeg) hc (by decide) hR
  obtain ⟨r1, hf1, he1⟩ := Option.map_eq_some_iff.mp hgx
  obtain ⟨r2, hf2, he2⟩ := Option.map_eq_some_iff.mp hgm
  cases he1
  have e1 := Value.int.inj (Option.some.inj (congrArg Prod.fst he2))
  have e2 := congrArg Prod.snd he2
  dsimp only at e1 e2
  subst e2
  obtain ⟨hWx, hTx, hWm, hTm⟩ := hO.1 cc Sx xx Sm xm hR
  refine LW.pure (pc' := 710) (st' := [.ref 1]) (fun hl k => lv_aload_n C.hx C.hb dL_law_709 rfl (hl.get (j := 1) (v := .ref 1) rfl) k) ?_
  refine LW.pure (pc' := 711) (st' := [.ref 0, .ref 1]) (fun hl k => lv_aload_n C.hx C.hb dL_law_710 rfl (hl.get (j := 0) (v := .ref 0) rfl) k) ?_
  refine LW.pure (pc' := 712) (st' := [.int (nI i), .ref 0, .ref 1]) (fun hl k => lv_iload_n C.hx C.hb dL_law_711 rfl (hl.get (j := 3) (v := .int (nI i)) rfl) k) ?_
  refine LW.pure (pc' := 713) (st' := [.int 1, .int (nI i), .ref 0, .ref 1]) (fun hl k => lv_iconst C.hx C.hb dL_law_712 (by decide) k) ?_
  refine LW.pure (pc' := 714) (st' := [.int (nI (i + 1)), .ref 0, .ref 1]) (fun hl k => lv_iadd C.hx C.hb dL_law_713 (by rw [show nI i + 1 = nI (i + 1) from nI_add i 1]; exact k)) ?_
  refine LW.sld (pc' := 715) C (vp_in_nI (by omega) (by omega)) dL_law_714 rfl ?_
  refine LW.pure (pc' := 716) (st' := [.ref 0, .int (xs (nI (i + 1)).toNatClampNeg), .ref 1]) (fun hl k => lv_aload_n C.hx C.hb dL_law_715 rfl (hl.get (j := 0) (v := .ref 0) rfl) k) ?_
  refine LW.pure (pc' := 717) (st' := [.int (nI i), .ref 0, .int (xs (nI (i + 1)).toNatClampNeg), .ref 1]) (fun hl k => lv_iload_n C.hx C.hb dL_law_716 rfl (hl.get (j := 3) (v := .int (nI i)) rfl) k) ?_
  refine LW.pure (pc' := 718) (st' := [.int 2, .int (nI i), .ref 0, .int (xs (nI (i + 1)).toNatClampNeg), .ref 1]) (fun hl k => lv_iconst C.hx C.hb dL_law_717 (by decide) k) ?_
  refine LW.pure (pc' := 719) (st' := [.int (nI (i + 2)), .ref 0, .int (xs (nI (i + 1)).toNatClampNeg), .ref 1]) (fun hl k => lv_iadd C.hx C.hb dL_law_718 (by rw [show nI i + 2 = nI (i + 2) from nI_add i 2]; exact k)) ?_
  refine LW.sld (pc' := 720) C (vp_in_nI (by omega) (by omega)) dL_law_719 rfl ?_
  refine lw_callX (M' := mX11_order) (As := [.int (xs (nI (i + 1)).toNatClampNeg), .int (xs (nI (i + 2)).toNatClampNeg)]) (st := []) (mc := 0) (ms := 0) (dd := 200) (pc' := 723) C ln_PlateRoundLaw_98 lb_X11_order (by decide) (t_X11_order (N := N) (d := 200) hWx (by decide) hTx r1 hf1) (by simp [nR]) hTx (by simp [nR]) (Nat.le_of_ble_eq_true rfl) rfl dL_law_720 rfl (by omega) (by omega) (fun r S' x' q v hv => by rw [q.1] at hv; cases hv; trivial) (fun r S' x' q _ => ?_)
  obtain ⟨rfl, rfl, rfl⟩ := q
  show LW p l e s m below meth c D ty σ0 b (kc + 0) (ks + 0) 723 [some (.ref 0), some (.ref 1), some (.ref 2), some (.int (nI i))] [.int r1.1] _ _ _ _
  refine LW.pure (pc' := 724) (st' := [.ref 2, .int r1.1]) (fun hl k => lv_aload_n C.hx C.hb dL_law_723 rfl (hl.get (j := 2) (v := .ref 2) rfl) k) ?_
  refine LW.pure (pc' := 725) (st' := [.ref 0, .ref 2, .int r1.1]) (fun hl k => lv_aload_n C.hx C.hb dL_law_724 rfl (hl.get (j := 0) (v := .ref 0) rfl) k) ?_
  refine LW.pure (pc' := 726) (st' := [.int (nI i), .ref 0, .ref 2, .int r1.1]) (fun hl k => lv_iload_n C.hx C.hb dL_law_725 rfl (hl.get (j := 3) (v := .int (nI i)) rfl) k) ?_
  refine LW.pure (pc' := 727) (st' := [.int 1, .int (nI i), .ref 0, .ref 2, .int r1.1]) (fun hl k => lv_iconst C.hx C.hb dL_law_726 (by decide) k) ?_
  refine LW.pure (pc' := 728) (st' := [.int (nI (i + 1)), .ref 0, .ref 2, .int r1.1]) (fun hl k => lv_iadd C.hx C.hb dL_law_727 (by rw [show nI i + 1 = nI (i + 1) from nI_add i 1]; exact k)) ?_
  refine LW.sld (pc' := 729) C (vp_in_nI (by omega) (by omega)) dL_law_728 rfl ?_
  refine LW.pure (pc' := 730) (st' := [.ref 0, .int (xs (nI (i + 1)).toNatClampNeg), .ref 2, .int r1.1]) (fun hl k => lv_aload_n C.hx C.hb dL_law_729 rfl (hl.get (j := 0) (v := .ref 0) rfl) k) ?_
  refine LW.pure (pc' := 731) (st' := [.int (nI i), .ref 0, .int (xs (nI (i + 1)).toNatClampNeg), .ref 2, .int r1.1]) (fun hl k => lv_iload_n C.hx C.hb dL_law_730 rfl (hl.get (j := 3) (v := .int (nI i)) rfl) k) ?_
  refine LW.pure (pc' := 732) (st' := [.int 2, .int (nI i), .ref 0, .int (xs (nI (i + 1)).toNatClampNeg), .ref 2, .int r1.1]) (fun hl k => lv_iconst C.hx C.hb dL_law_731 (by decide) k) ?_
  refine LW.pure (pc' := 733) (st' := [.int (nI (i + 2)), .ref 0, .int (xs (nI (i + 1)).toNatClampNeg), .ref 2, .int r1.1]) (fun hl k => lv_iadd C.hx C.hb dL_law_732 (by rw [show nI i + 2 = nI (i + 2) from nI_add i 2]; exact k)) ?_
  refine LW.sld (pc' := 734) C (vp_in_nI (by omega) (by omega)) dL_law_733 rfl ?_
  refine lw_callM (M' := mX12_order) (As := [.int (xs (nI (i + 1)).toNatClampNeg), .int (xs (nI (i + 2)).toNatClampNeg)]) (st := [.int r1.1]) (mc := 0) (ms := 0) (dd := 200) (pc' := 737) C ln_PlateRoundLaw_101 lb_X12_order (by decide) (t_X12_order (N := N) (d := 200) hWm (by decide) hTm r2 hf2) (by simp [nR]) hTm (by simp [nR]) (Nat.le_of_ble_eq_true rfl) rfl dL_law_734 rfl (by omega) (by omega) (fun r S' x' q v hv => by rw [q.1] at hv; cases hv; trivial) (fun r S' x' q _ => ?_)
  obtain ⟨rfl, rfl, rfl⟩ := q
  show LW p l e s m below meth c D ty σ0 b ((kc + 0) + 0) ((ks + 0) + 0) 737 [some (.ref 0), some (.ref 1), some (.ref 2), some (.int (nI i))] [.int r2.1, .int r1.1] _ _ _ _
  refine LW.br (c1 := r1.1 = r2.1) (pc1 := 1159) (pc' := 740) (st' := []) (fun kt kf => lv_icmp_eq C.hx C.hb dL_law_737 (by decide) kt kf) (fun _ => ?_) (fun h => absurd e1.symm h)
  exact LW.widen (by omega) (by omega) (back _ _ _ hR')
set_option maxHeartbeats 2000000 in
theorem law_case18 (C : LC p s m meth c b L xs D ty σ0) (hL : L ≤ 2561) (hO : LAWOK N R) {cc i kc ks : Nat} {Sx Sm : SH} {xx xm : DY} (hc : cc < 512) (hR : R cc Sx xx Sm xm) (hi : i + 5 ≤ L) (hkc : kc + 4 ≤ 600000) (hks : ks + 483 ≤ 7302250)
    (back : ∀ S' x' y', R (cc + 1) S' x' Sm y' → LW p l e s m below meth c D ty σ0 b (kc + 4) (ks + 483) 1159 [some (.ref 0), some (.ref 1), some (.ref 2), some (.int (nI i))] [] S' x' Sm y') : LW p l e s m below meth c D ty σ0 b kc ks 742 [some (.ref 0), some (.ref 1), some (.ref 2), some (.int (nI i))] [] Sx xx Sm xm := by
  obtain ⟨v, S', x', y', hgx, hgm, hR'⟩ := hO.2 cc Sx xx Sm xm 18 (xs (nI (i + 1)).toNatClampNeg) (xs (nI (i + 2)).toNatClampNeg) (xs (nI (i + 3)).toNatClampNeg) (xs (nI (i + 4)).toNatClampNeg) hc (by decide) hR
  obtain ⟨r1, hf1, he1⟩ := Option.map_eq_some_iff.mp hgx
  obtain ⟨r2, hf2, he2⟩ := Option.map_eq_some_iff.mp hgm
  cases he1
  have e1 := Value.int.inj (Option.some.inj (congrArg Prod.fst he2))
  have e2 := congrArg Prod.snd he2
  dsimp only at e1 e2
  subst e2
  obtain ⟨hWx, hTx, hWm, hTm⟩ := hO.1 cc Sx xx Sm xm hR
  refine LW.pure (pc' := 743) (st' := [.ref 1]) (fun hl k => lv_aload_n C.hx C.hb dL_law_742 rfl (hl.get (j := 1) (v := .ref 1) rfl) k) ?_
  refine LW.pure (pc' := 744) (st' := [.ref 0, .ref 1]) (fun hl k => lv_aload_n C.hx C.hb dL_law_743 rfl (hl.get (j := 0) (v := .ref 0) rfl) k) ?_
  refine LW.pure (pc' := 745) (st' := [.int (nI i), .ref 0, .ref 1]) (fun hl k => lv_iload_n C.hx C.hb dL_law_744 rfl (hl.get (j := 3) (v := .int (nI i)) rfl) k) ?_
  refine LW.pure (pc' := 746) (st' := [.int 1, .int (nI i), .ref 0, .ref 1]) (fun hl k => lv_iconst C.hx C.hb dL_law_745 (by decide) k) ?_
  refine LW.pure (pc' := 747) (st' := [.int (nI (i + 1)), .ref 0, .ref 1]) (fun hl k => lv_iadd C.hx C.hb dL_law_746 (by rw [show nI i + 1 = nI (i + 1) from nI_add i 1]; exact k)) ?_
  refine LW.sld (pc' := 748) C (vp_in_nI (by omega) (by omega)) dL_law_747 rfl ?_
  refine lw_callX (M' := mX11_lane) (As := [.int (xs (nI (i + 1)).toNatClampNeg)]) (st := []) (mc := 0) (ms := 0) (dd := 200) (pc' := 751) C ln_PlateRoundLaw_102 lb_X11_lane (by decide) (t_X11_lane (N := N) (d := 200) hWx (by decide) hTx r1 hf1) (by simp [nR]) hTx (by simp [nR]) (Nat.le_of_ble_eq_true rfl) rfl dL_law_748 rfl (by omega) (by omega) (fun r S' x' q v hv => by rw [q.1] at hv; cases hv; trivial) (fun r S' x' q _ => ?_)
  obtain ⟨rfl, rfl, rfl⟩ := q
  show LW p l e s m below meth c D ty σ0 b (kc + 0) (ks + 0) 751 [some (.ref 0), some (.ref 1), some (.ref 2), some (.int (nI i))] [.int r1] _ _ _ _
  refine LW.pure (pc' := 752) (st' := [.ref 2, .int r1]) (fun hl k => lv_aload_n C.hx C.hb dL_law_751 rfl (hl.get (j := 2) (v := .ref 2) rfl) k) ?_
  refine LW.pure (pc' := 753) (st' := [.ref 0, .ref 2, .int r1]) (fun hl k => lv_aload_n C.hx C.hb dL_law_752 rfl (hl.get (j := 0) (v := .ref 0) rfl) k) ?_
  refine LW.pure (pc' := 754) (st' := [.int (nI i), .ref 0, .ref 2, .int r1]) (fun hl k => lv_iload_n C.hx C.hb dL_law_753 rfl (hl.get (j := 3) (v := .int (nI i)) rfl) k) ?_
  refine LW.pure (pc' := 755) (st' := [.int 1, .int (nI i), .ref 0, .ref 2, .int r1]) (fun hl k => lv_iconst C.hx C.hb dL_law_754 (by decide) k) ?_
  refine LW.pure (pc' := 756) (st' := [.int (nI (i + 1)), .ref 0, .ref 2, .int r1]) (fun hl k => lv_iadd C.hx C.hb dL_law_755 (by rw [show nI i + 1 = nI (i + 1) from nI_add i 1]; exact k)) ?_
  refine LW.sld (pc' := 757) C (vp_in_nI (by omega) (by omega)) dL_law_756 rfl ?_
  refine lw_callM (M' := mX12_lane) (As := [.int (xs (nI (i + 1)).toNatClampNeg)]) (st := [.int r1]) (mc := 0) (ms := 0) (dd := 200) (pc' := 760) C ln_PlateRoundLaw_105 lb_X12_lane (by decide) (t_X12_lane (N := N) (d := 200) hWm (by decide) hTm r2 hf2) (by simp [nR]) hTm (by simp [nR]) (Nat.le_of_ble_eq_true rfl) rfl dL_law_757 rfl (by omega) (by omega) (fun r S' x' q v hv => by rw [q.1] at hv; cases hv; trivial) (fun r S' x' q _ => ?_)
  obtain ⟨rfl, rfl, rfl⟩ := q
  show LW p l e s m below meth c D ty σ0 b ((kc + 0) + 0) ((ks + 0) + 0) 760 [some (.ref 0), some (.ref 1), some (.ref 2), some (.int (nI i))] [.int r2, .int r1] _ _ _ _
  refine LW.br (c1 := r1 = r2) (pc1 := 1159) (pc' := 763) (st' := []) (fun kt kf => lv_icmp_eq C.hx C.hb dL_law_760 (by decide) kt kf) (fun _ => ?_) (fun h => absurd e1.symm h)
  exact LW.widen (by omega) (by omega) (back _ _ _ hR')
set_option maxHeartbeats 2000000 in
theorem law_case19 (C : LC p s m meth c b L xs D ty σ0) (hL : L ≤ 2561) (hO : LAWOK N R) {cc i kc ks : Nat} {Sx Sm : SH} {xx xm : DY} (hc : cc < 512) (hR : R cc Sx xx Sm xm) (hi : i + 5 ≤ L) (hkc : kc + 4 ≤ 600000) (hks : ks + 483 ≤ 7302250)
    (back : ∀ S' x' y', R (cc + 1) S' x' Sm y' → LW p l e s m below meth c D ty σ0 b (kc + 4) (ks + 483) 1159 [some (.ref 0), some (.ref 1), some (.ref 2), some (.int (nI i))] [] S' x' Sm y') : LW p l e s m below meth c D ty σ0 b kc ks 765 [some (.ref 0), some (.ref 1), some (.ref 2), some (.int (nI i))] [] Sx xx Sm xm := by
  obtain ⟨v, S', x', y', hgx, hgm, hR'⟩ := hO.2 cc Sx xx Sm xm 19 (xs (nI (i + 1)).toNatClampNeg) (xs (nI (i + 2)).toNatClampNeg) (xs (nI (i + 3)).toNatClampNeg) (xs (nI (i + 4)).toNatClampNeg) hc (by decide) hR
  obtain ⟨r1, hf1, he1⟩ := Option.map_eq_some_iff.mp hgx
  obtain ⟨r2, hf2, he2⟩ := Option.map_eq_some_iff.mp hgm
  cases he1
  have e1 := Value.int.inj (Option.some.inj (congrArg Prod.fst he2))
  have e2 := congrArg Prod.snd he2
  dsimp only at e1 e2
  subst e2
  obtain ⟨hWx, hTx, hWm, hTm⟩ := hO.1 cc Sx xx Sm xm hR
  refine LW.pure (pc' := 766) (st' := [.ref 1]) (fun hl k => lv_aload_n C.hx C.hb dL_law_765 rfl (hl.get (j := 1) (v := .ref 1) rfl) k) ?_
  refine LW.pure (pc' := 767) (st' := [.ref 0, .ref 1]) (fun hl k => lv_aload_n C.hx C.hb dL_law_766 rfl (hl.get (j := 0) (v := .ref 0) rfl) k) ?_
  refine LW.pure (pc' := 768) (st' := [.int (nI i), .ref 0, .ref 1]) (fun hl k => lv_iload_n C.hx C.hb dL_law_767 rfl (hl.get (j := 3) (v := .int (nI i)) rfl) k) ?_
  refine LW.pure (pc' := 769) (st' := [.int 1, .int (nI i), .ref 0, .ref 1]) (fun hl k => lv_iconst C.hx C.hb dL_law_768 (by decide) k) ?_
  refine LW.pure (pc' := 770) (st' := [.int (nI (i + 1)), .ref 0, .ref 1]) (fun hl k => lv_iadd C.hx C.hb dL_law_769 (by rw [show nI i + 1 = nI (i + 1) from nI_add i 1]; exact k)) ?_
  refine LW.sld (pc' := 771) C (vp_in_nI (by omega) (by omega)) dL_law_770 rfl ?_
  refine LW.pure (pc' := 772) (st' := [.ref 0, .int (xs (nI (i + 1)).toNatClampNeg), .ref 1]) (fun hl k => lv_aload_n C.hx C.hb dL_law_771 rfl (hl.get (j := 0) (v := .ref 0) rfl) k) ?_
  refine LW.pure (pc' := 773) (st' := [.int (nI i), .ref 0, .int (xs (nI (i + 1)).toNatClampNeg), .ref 1]) (fun hl k => lv_iload_n C.hx C.hb dL_law_772 rfl (hl.get (j := 3) (v := .int (nI i)) rfl) k) ?_
  refine LW.pure (pc' := 774) (st' := [.int 2, .int (nI i), .ref 0, .int (xs (nI (i + 1)).toNatClampNeg), .ref 1]) (fun hl k => lv_iconst C.hx C.hb dL_law_773 (by decide) k) ?_
  refine LW.pure (pc' := 775) (st' := [.int (nI (i + 2)), .ref 0, .int (xs (nI (i + 1)).toNatClampNeg), .ref 1]) (fun hl k => lv_iadd C.hx C.hb dL_law_774 (by rw [show nI i + 2 = nI (i + 2) from nI_add i 2]; exact k)) ?_
  refine LW.sld (pc' := 776) C (vp_in_nI (by omega) (by omega)) dL_law_775 rfl ?_
  refine lw_callX (M' := mX11_empties) (As := [.int (xs (nI (i + 1)).toNatClampNeg), .int (xs (nI (i + 2)).toNatClampNeg)]) (st := []) (mc := 0) (ms := 0) (dd := 200) (pc' := 779) C ln_PlateRoundLaw_106 lb_X11_empties (by decide) (t_X11_empties (N := N) (d := 200) hWx (by decide) hTx r1 hf1) (by simp [nR]) hTx (by simp [nR]) (Nat.le_of_ble_eq_true rfl) rfl dL_law_776 rfl (by omega) (by omega) (fun r S' x' q v hv => by rw [q.1] at hv; cases hv; trivial) (fun r S' x' q _ => ?_)
  obtain ⟨rfl, rfl, rfl⟩ := q
  show LW p l e s m below meth c D ty σ0 b (kc + 0) (ks + 0) 779 [some (.ref 0), some (.ref 1), some (.ref 2), some (.int (nI i))] [.int r1] _ _ _ _
  refine LW.pure (pc' := 780) (st' := [.ref 2, .int r1]) (fun hl k => lv_aload_n C.hx C.hb dL_law_779 rfl (hl.get (j := 2) (v := .ref 2) rfl) k) ?_
  refine LW.pure (pc' := 781) (st' := [.ref 0, .ref 2, .int r1]) (fun hl k => lv_aload_n C.hx C.hb dL_law_780 rfl (hl.get (j := 0) (v := .ref 0) rfl) k) ?_
  refine LW.pure (pc' := 782) (st' := [.int (nI i), .ref 0, .ref 2, .int r1]) (fun hl k => lv_iload_n C.hx C.hb dL_law_781 rfl (hl.get (j := 3) (v := .int (nI i)) rfl) k) ?_
  refine LW.pure (pc' := 783) (st' := [.int 1, .int (nI i), .ref 0, .ref 2, .int r1]) (fun hl k => lv_iconst C.hx C.hb dL_law_782 (by decide) k) ?_
  refine LW.pure (pc' := 784) (st' := [.int (nI (i + 1)), .ref 0, .ref 2, .int r1]) (fun hl k => lv_iadd C.hx C.hb dL_law_783 (by rw [show nI i + 1 = nI (i + 1) from nI_add i 1]; exact k)) ?_
  refine LW.sld (pc' := 785) C (vp_in_nI (by omega) (by omega)) dL_law_784 rfl ?_
  refine LW.pure (pc' := 786) (st' := [.ref 0, .int (xs (nI (i + 1)).toNatClampNeg), .ref 2, .int r1]) (fun hl k => lv_aload_n C.hx C.hb dL_law_785 rfl (hl.get (j := 0) (v := .ref 0) rfl) k) ?_
  refine LW.pure (pc' := 787) (st' := [.int (nI i), .ref 0, .int (xs (nI (i + 1)).toNatClampNeg), .ref 2, .int r1]) (fun hl k => lv_iload_n C.hx C.hb dL_law_786 rfl (hl.get (j := 3) (v := .int (nI i)) rfl) k) ?_
  refine LW.pure (pc' := 788) (st' := [.int 2, .int (nI i), .ref 0, .int (xs (nI (i + 1)).toNatClampNeg), .ref 2, .int r1]) (fun hl k => lv_iconst C.hx C.hb dL_law_787 (by decide) k) ?_
  refine LW.pure (pc' := 789) (st' := [.int (nI (i + 2)), .ref 0, .int (xs (nI (i + 1)).toNatClampNeg), .ref 2, .int r1]) (fun hl k => lv_iadd C.hx C.hb dL_law_788 (by rw [show nI i + 2 = nI (i + 2) from nI_add i 2]; exact k)) ?_
  refine LW.sld (pc' := 790) C (vp_in_nI (by omega) (by omega)) dL_law_789 rfl ?_
  refine lw_callM (M' := mX12_empties) (As := [.int (xs (nI (i + 1)).toNatClampNeg), .int (xs (nI (i + 2)).toNatClampNeg)]) (st := [.int r1]) (mc := 0) (ms := 0) (dd := 200) (pc' := 793) C ln_PlateRoundLaw_109 lb_X12_empties (by decide) (t_X12_empties (N := N) (d := 200) hWm (by decide) hTm r2 hf2) (by simp [nR]) hTm (by simp [nR]) (Nat.le_of_ble_eq_true rfl) rfl dL_law_790 rfl (by omega) (by omega) (fun r S' x' q v hv => by rw [q.1] at hv; cases hv; trivial) (fun r S' x' q _ => ?_)
  obtain ⟨rfl, rfl, rfl⟩ := q
  show LW p l e s m below meth c D ty σ0 b ((kc + 0) + 0) ((ks + 0) + 0) 793 [some (.ref 0), some (.ref 1), some (.ref 2), some (.int (nI i))] [.int r2, .int r1] _ _ _ _
  refine LW.br (c1 := r1 = r2) (pc1 := 1159) (pc' := 796) (st' := []) (fun kt kf => lv_icmp_eq C.hx C.hb dL_law_793 (by decide) kt kf) (fun _ => ?_) (fun h => absurd e1.symm h)
  exact LW.widen (by omega) (by omega) (back _ _ _ hR')
set_option maxHeartbeats 2000000 in
theorem law_case20 (C : LC p s m meth c b L xs D ty σ0) (hL : L ≤ 2561) (hO : LAWOK N R) {cc i kc ks : Nat} {Sx Sm : SH} {xx xm : DY} (hc : cc < 512) (hR : R cc Sx xx Sm xm) (hi : i + 5 ≤ L) (hkc : kc + 4 ≤ 600000) (hks : ks + 483 ≤ 7302250)
    (back : ∀ S' x' y', R (cc + 1) S' x' Sm y' → LW p l e s m below meth c D ty σ0 b (kc + 4) (ks + 483) 1159 [some (.ref 0), some (.ref 1), some (.ref 2), some (.int (nI i))] [] S' x' Sm y') : LW p l e s m below meth c D ty σ0 b kc ks 798 [some (.ref 0), some (.ref 1), some (.ref 2), some (.int (nI i))] [] Sx xx Sm xm := by
  obtain ⟨v, S', x', y', hgx, hgm, hR'⟩ := hO.2 cc Sx xx Sm xm 20 (xs (nI (i + 1)).toNatClampNeg) (xs (nI (i + 2)).toNatClampNeg) (xs (nI (i + 3)).toNatClampNeg) (xs (nI (i + 4)).toNatClampNeg) hc (by decide) hR
  obtain ⟨r1, hf1, he1⟩ := Option.map_eq_some_iff.mp hgx
  obtain ⟨r2, hf2, he2⟩ := Option.map_eq_some_iff.mp hgm
  cases he1
  have e1 := Value.int.inj (Option.some.inj (congrArg Prod.fst he2))
  have e2 := congrArg Prod.snd he2
  dsimp only at e1 e2
  subst e2
  obtain ⟨hWx, hTx, hWm, hTm⟩ := hO.1 cc Sx xx Sm xm hR
  refine LW.pure (pc' := 799) (st' := [.ref 1]) (fun hl k => lv_aload_n C.hx C.hb dL_law_798 rfl (hl.get (j := 1) (v := .ref 1) rfl) k) ?_
  refine LW.pure (pc' := 800) (st' := [.ref 0, .ref 1]) (fun hl k => lv_aload_n C.hx C.hb dL_law_799 rfl (hl.get (j := 0) (v := .ref 0) rfl) k) ?_
  refine LW.pure (pc' := 801) (st' := [.int (nI i), .ref 0, .ref 1]) (fun hl k => lv_iload_n C.hx C.hb dL_law_800 rfl (hl.get (j := 3) (v := .int (nI i)) rfl) k) ?_
  refine LW.pure (pc' := 802) (st' := [.int 1, .int (nI i), .ref 0, .ref 1]) (fun hl k => lv_iconst C.hx C.hb dL_law_801 (by decide) k) ?_
  refine LW.pure (pc' := 803) (st' := [.int (nI (i + 1)), .ref 0, .ref 1]) (fun hl k => lv_iadd C.hx C.hb dL_law_802 (by rw [show nI i + 1 = nI (i + 1) from nI_add i 1]; exact k)) ?_
  refine LW.sld (pc' := 804) C (vp_in_nI (by omega) (by omega)) dL_law_803 rfl ?_
  refine lw_callX (M' := mX11_waste) (As := [.int (xs (nI (i + 1)).toNatClampNeg)]) (st := []) (mc := 0) (ms := 0) (dd := 200) (pc' := 807) C ln_PlateRoundLaw_110 lb_X11_waste (by decide) (t_X11_waste (N := N) (d := 200) hWx (by decide) hTx r1 hf1) (by simp [nR]) hTx (by simp [nR]) (Nat.le_of_ble_eq_true rfl) rfl dL_law_804 rfl (by omega) (by omega) (fun r S' x' q v hv => by rw [q.1] at hv; cases hv; trivial) (fun r S' x' q _ => ?_)
  obtain ⟨rfl, rfl, rfl⟩ := q
  show LW p l e s m below meth c D ty σ0 b (kc + 0) (ks + 0) 807 [some (.ref 0), some (.ref 1), some (.ref 2), some (.int (nI i))] [.int r1.1] _ _ _ _
  refine LW.pure (pc' := 808) (st' := [.ref 2, .int r1.1]) (fun hl k => lv_aload_n C.hx C.hb dL_law_807 rfl (hl.get (j := 2) (v := .ref 2) rfl) k) ?_
  refine LW.pure (pc' := 809) (st' := [.ref 0, .ref 2, .int r1.1]) (fun hl k => lv_aload_n C.hx C.hb dL_law_808 rfl (hl.get (j := 0) (v := .ref 0) rfl) k) ?_
  refine LW.pure (pc' := 810) (st' := [.int (nI i), .ref 0, .ref 2, .int r1.1]) (fun hl k => lv_iload_n C.hx C.hb dL_law_809 rfl (hl.get (j := 3) (v := .int (nI i)) rfl) k) ?_
  refine LW.pure (pc' := 811) (st' := [.int 1, .int (nI i), .ref 0, .ref 2, .int r1.1]) (fun hl k => lv_iconst C.hx C.hb dL_law_810 (by decide) k) ?_
  refine LW.pure (pc' := 812) (st' := [.int (nI (i + 1)), .ref 0, .ref 2, .int r1.1]) (fun hl k => lv_iadd C.hx C.hb dL_law_811 (by rw [show nI i + 1 = nI (i + 1) from nI_add i 1]; exact k)) ?_
  refine LW.sld (pc' := 813) C (vp_in_nI (by omega) (by omega)) dL_law_812 rfl ?_
  refine lw_callM (M' := mX12_waste) (As := [.int (xs (nI (i + 1)).toNatClampNeg)]) (st := [.int r1.1]) (mc := 0) (ms := 0) (dd := 200) (pc' := 816) C ln_PlateRoundLaw_113 lb_X12_waste (by decide) (t_X12_waste (N := N) (d := 200) hWm (by decide) hTm r2 hf2) (by simp [nR]) hTm (by simp [nR]) (Nat.le_of_ble_eq_true rfl) rfl dL_law_813 rfl (by omega) (by omega) (fun r S' x' q v hv => by rw [q.1] at hv; cases hv; trivial) (fun r S' x' q _ => ?_)
  obtain ⟨rfl, rfl, rfl⟩ := q
  show LW p l e s m below meth c D ty σ0 b ((kc + 0) + 0) ((ks + 0) + 0) 816 [some (.ref 0), some (.ref 1), some (.ref 2), some (.int (nI i))] [.int r2.1, .int r1.1] _ _ _ _
  refine LW.br (c1 := r1.1 = r2.1) (pc1 := 1159) (pc' := 819) (st' := []) (fun kt kf => lv_icmp_eq C.hx C.hb dL_law_816 (by decide) kt kf) (fun _ => ?_) (fun h => absurd e1.symm h)
  exact LW.widen (by omega) (by omega) (back _ _ _ hR')
set_option maxHeartbeats 2000000 in
theorem law_case21 (C : LC p s m meth c b L xs D ty σ0) (hL : L ≤ 2561) (hO : LAWOK N R) {cc i kc ks : Nat} {Sx Sm : SH} {xx xm : DY} (hc : cc < 512) (hR : R cc Sx xx Sm xm) (hi : i + 5 ≤ L) (hkc : kc + 4 ≤ 600000) (hks : ks + 483 ≤ 7302250)
    (back : ∀ S' x' y', R (cc + 1) S' x' Sm y' → LW p l e s m below meth c D ty σ0 b (kc + 4) (ks + 483) 1159 [some (.ref 0), some (.ref 1), some (.ref 2), some (.int (nI i))] [] S' x' Sm y') : LW p l e s m below meth c D ty σ0 b kc ks 821 [some (.ref 0), some (.ref 1), some (.ref 2), some (.int (nI i))] [] Sx xx Sm xm := by
  obtain ⟨v, S', x', y', hgx, hgm, hR'⟩ := hO.2 cc Sx xx Sm xm 21 (xs (nI (i + 1)).toNatClampNeg) (xs (nI (i + 2)).toNatClampNeg) (xs (nI (i + 3)).toNatClampNeg) (xs (nI (i + 4)).toNatClampNeg) hc (by decide) hR
  obtain ⟨r1, hf1, he1⟩ := Option.map_eq_some_iff.mp hgx
  obtain ⟨r2, hf2, he2⟩ := Option.map_eq_some_iff.mp hgm
  cases he1
  have e1 := Value.int.inj (Option.some.inj (congrArg Prod.fst he2))
  have e2 := congrArg Prod.snd he2
  dsimp only at e1 e2
  subst e2
  obtain ⟨hWx, hTx, hWm, hTm⟩ := hO.1 cc Sx xx Sm xm hR
  refine LW.pure (pc' := 822) (st' := [.ref 1]) (fun hl k => lv_aload_n C.hx C.hb dL_law_821 rfl (hl.get (j := 1) (v := .ref 1) rfl) k) ?_
  refine LW.pure (pc' := 823) (st' := [.ref 0, .ref 1]) (fun hl k => lv_aload_n C.hx C.hb dL_law_822 rfl (hl.get (j := 0) (v := .ref 0) rfl) k) ?_
  refine LW.pure (pc' := 824) (st' := [.int (nI i), .ref 0, .ref 1]) (fun hl k => lv_iload_n C.hx C.hb dL_law_823 rfl (hl.get (j := 3) (v := .int (nI i)) rfl) k) ?_
  refine LW.pure (pc' := 825) (st' := [.int 1, .int (nI i), .ref 0, .ref 1]) (fun hl k => lv_iconst C.hx C.hb dL_law_824 (by decide) k) ?_
  refine LW.pure (pc' := 826) (st' := [.int (nI (i + 1)), .ref 0, .ref 1]) (fun hl k => lv_iadd C.hx C.hb dL_law_825 (by rw [show nI i + 1 = nI (i + 1) from nI_add i 1]; exact k)) ?_
  refine LW.sld (pc' := 827) C (vp_in_nI (by omega) (by omega)) dL_law_826 rfl ?_
  refine LW.pure (pc' := 828) (st' := [.ref 0, .int (xs (nI (i + 1)).toNatClampNeg), .ref 1]) (fun hl k => lv_aload_n C.hx C.hb dL_law_827 rfl (hl.get (j := 0) (v := .ref 0) rfl) k) ?_
  refine LW.pure (pc' := 829) (st' := [.int (nI i), .ref 0, .int (xs (nI (i + 1)).toNatClampNeg), .ref 1]) (fun hl k => lv_iload_n C.hx C.hb dL_law_828 rfl (hl.get (j := 3) (v := .int (nI i)) rfl) k) ?_
  refine LW.pure (pc' := 830) (st' := [.int 2, .int (nI i), .ref 0, .int (xs (nI (i + 1)).toNatClampNeg), .ref 1]) (fun hl k => lv_iconst C.hx C.hb dL_law_829 (by decide) k) ?_
  refine LW.pure (pc' := 831) (st' := [.int (nI (i + 2)), .ref 0, .int (xs (nI (i + 1)).toNatClampNeg), .ref 1]) (fun hl k => lv_iadd C.hx C.hb dL_law_830 (by rw [show nI i + 2 = nI (i + 2) from nI_add i 2]; exact k)) ?_
  refine LW.sld (pc' := 832) C (vp_in_nI (by omega) (by omega)) dL_law_831 rfl ?_
  refine LW.pure (pc' := 833) (st' := [.ref 0, .int (xs (nI (i + 2)).toNatClampNeg), .int (xs (nI (i + 1)).toNatClampNeg), .ref 1]) (fun hl k => lv_aload_n C.hx C.hb dL_law_832 rfl (hl.get (j := 0) (v := .ref 0) rfl) k) ?_
  refine LW.pure (pc' := 834) (st' := [.int (nI i), .ref 0, .int (xs (nI (i + 2)).toNatClampNeg), .int (xs (nI (i + 1)).toNatClampNeg), .ref 1]) (fun hl k => lv_iload_n C.hx C.hb dL_law_833 rfl (hl.get (j := 3) (v := .int (nI i)) rfl) k) ?_
  refine LW.pure (pc' := 835) (st' := [.int 3, .int (nI i), .ref 0, .int (xs (nI (i + 2)).toNatClampNeg), .int (xs (nI (i + 1)).toNatClampNeg), .ref 1]) (fun hl k => lv_iconst C.hx C.hb dL_law_834 (by decide) k) ?_
  refine LW.pure (pc' := 836) (st' := [.int (nI (i + 3)), .ref 0, .int (xs (nI (i + 2)).toNatClampNeg), .int (xs (nI (i + 1)).toNatClampNeg), .ref 1]) (fun hl k => lv_iadd C.hx C.hb dL_law_835 (by rw [show nI i + 3 = nI (i + 3) from nI_add i 3]; exact k)) ?_
  refine LW.sld (pc' := 837) C (vp_in_nI (by omega) (by omega)) dL_law_836 rfl ?_
  refine lw_callX (M' := mX11_ahead) (As := [.int (xs (nI (i + 1)).toNatClampNeg), .int (xs (nI (i + 2)).toNatClampNeg), .int (xs (nI (i + 3)).toNatClampNeg)]) (st := []) (mc := 0) (ms := 0) (dd := 200) (pc' := 840) C ln_PlateRoundLaw_114 lb_X11_ahead (by decide) (t_X11_ahead (N := N) (d := 200) hWx (by decide) hTx r1 hf1) (by simp [nR]) hTx (by simp [nR]) (Nat.le_of_ble_eq_true rfl) rfl dL_law_837 rfl (by omega) (by omega) (fun r S' x' q v hv => by rw [q.1] at hv; cases hv; trivial) (fun r S' x' q _ => ?_)
  obtain ⟨rfl, rfl, rfl⟩ := q
  show LW p l e s m below meth c D ty σ0 b (kc + 0) (ks + 0) 840 [some (.ref 0), some (.ref 1), some (.ref 2), some (.int (nI i))] [.int r1.1] _ _ _ _
  refine LW.pure (pc' := 841) (st' := [.ref 2, .int r1.1]) (fun hl k => lv_aload_n C.hx C.hb dL_law_840 rfl (hl.get (j := 2) (v := .ref 2) rfl) k) ?_
  refine LW.pure (pc' := 842) (st' := [.ref 0, .ref 2, .int r1.1]) (fun hl k => lv_aload_n C.hx C.hb dL_law_841 rfl (hl.get (j := 0) (v := .ref 0) rfl) k) ?_
  refine LW.pure (pc' := 843) (st' := [.int (nI i), .ref 0, .ref 2, .int r1.1]) (fun hl k => lv_iload_n C.hx C.hb dL_law_842 rfl (hl.get (j := 3) (v := .int (nI i)) rfl) k) ?_
  refine LW.pure (pc' := 844) (st' := [.int 1, .int (nI i), .ref 0, .ref 2, .int r1.1]) (fun hl k => lv_iconst C.hx C.hb dL_law_843 (by decide) k) ?_
  refine LW.pure (pc' := 845) (st' := [.int (nI (i + 1)), .ref 0, .ref 2, .int r1.1]) (fun hl k => lv_iadd C.hx C.hb dL_law_844 (by rw [show nI i + 1 = nI (i + 1) from nI_add i 1]; exact k)) ?_
  refine LW.sld (pc' := 846) C (vp_in_nI (by omega) (by omega)) dL_law_845 rfl ?_
  refine LW.pure (pc' := 847) (st' := [.ref 0, .int (xs (nI (i + 1)).toNatClampNeg), .ref 2, .int r1.1]) (fun hl k => lv_aload_n C.hx C.hb dL_law_846 rfl (hl.get (j := 0) (v := .ref 0) rfl) k) ?_
  refine LW.pure (pc' := 848) (st' := [.int (nI i), .ref 0, .int (xs (nI (i + 1)).toNatClampNeg), .ref 2, .int r1.1]) (fun hl k => lv_iload_n C.hx C.hb dL_law_847 rfl (hl.get (j := 3) (v := .int (nI i)) rfl) k) ?_
  refine LW.pure (pc' := 849) (st' := [.int 2, .int (nI i), .ref 0, .int (xs (nI (i + 1)).toNatClampNeg), .ref 2, .int r1.1]) (fun hl k => lv_iconst C.hx C.hb dL_law_848 (by decide) k) ?_
  refine LW.pure (pc' := 850) (st' := [.int (nI (i + 2)), .ref 0, .int (xs (nI (i + 1)).toNatClampNeg), .ref 2, .int r1.1]) (fun hl k => lv_iadd C.hx C.hb dL_law_849 (by rw [show nI i + 2 = nI (i + 2) from nI_add i 2]; exact k)) ?_
  refine LW.sld (pc' := 851) C (vp_in_nI (by omega) (by omega)) dL_law_850 rfl ?_
  refine LW.pure (pc' := 852) (st' := [.ref 0, .int (xs (nI (i + 2)).toNatClampNeg), .int (xs (nI (i + 1)).toNatClampNeg), .ref 2, .int r1.1]) (fun hl k => lv_aload_n C.hx C.hb dL_law_851 rfl (hl.get (j := 0) (v := .ref 0) rfl) k) ?_
  refine LW.pure (pc' := 853) (st' := [.int (nI i), .ref 0, .int (xs (nI (i + 2)).toNatClampNeg), .int (xs (nI (i + 1)).toNatClampNeg), .ref 2, .int r1.1]) (fun hl k => lv_iload_n C.hx C.hb dL_law_852 rfl (hl.get (j := 3) (v := .int (nI i)) rfl) k) ?_
  refine LW.pure (pc' := 854) (st' := [.int 3, .int (nI i), .ref 0, .int (xs (nI (i + 2)).toNatClampNeg), .int (xs (nI (i + 1)).toNatClampNeg), .ref 2, .int r1.1]) (fun hl k => lv_iconst C.hx C.hb dL_law_853 (by decide) k) ?_
  refine LW.pure (pc' := 855) (st' := [.int (nI (i + 3)), .ref 0, .int (xs (nI (i + 2)).toNatClampNeg), .int (xs (nI (i + 1)).toNatClampNeg), .ref 2, .int r1.1]) (fun hl k => lv_iadd C.hx C.hb dL_law_854 (by rw [show nI i + 3 = nI (i + 3) from nI_add i 3]; exact k)) ?_
  refine LW.sld (pc' := 856) C (vp_in_nI (by omega) (by omega)) dL_law_855 rfl ?_
  refine lw_callM (M' := mX12_ahead_) (As := [.int (xs (nI (i + 1)).toNatClampNeg), .int (xs (nI (i + 2)).toNatClampNeg), .int (xs (nI (i + 3)).toNatClampNeg)]) (st := [.int r1.1]) (mc := 0) (ms := 0) (dd := 200) (pc' := 859) C ln_PlateRoundLaw_117 lb_X12_ahead_ (by decide) (t_X12_ahead_ (N := N) (d := 200) hWm (by decide) hTm r2 hf2) (by simp [nR]) hTm (by simp [nR]) (Nat.le_of_ble_eq_true rfl) rfl dL_law_856 rfl (by omega) (by omega) (fun r S' x' q v hv => by rw [q.1] at hv; cases hv; trivial) (fun r S' x' q _ => ?_)
  obtain ⟨rfl, rfl, rfl⟩ := q
  show LW p l e s m below meth c D ty σ0 b ((kc + 0) + 0) ((ks + 0) + 0) 859 [some (.ref 0), some (.ref 1), some (.ref 2), some (.int (nI i))] [.int r2.1, .int r1.1] _ _ _ _
  refine LW.br (c1 := r1.1 = r2.1) (pc1 := 1159) (pc' := 862) (st' := []) (fun kt kf => lv_icmp_eq C.hx C.hb dL_law_859 (by decide) kt kf) (fun _ => ?_) (fun h => absurd e1.symm h)
  exact LW.widen (by omega) (by omega) (back _ _ _ hR')
set_option maxHeartbeats 2000000 in
theorem law_case22 (C : LC p s m meth c b L xs D ty σ0) (hL : L ≤ 2561) (hO : LAWOK N R) {cc i kc ks : Nat} {Sx Sm : SH} {xx xm : DY} (hc : cc < 512) (hR : R cc Sx xx Sm xm) (hi : i + 5 ≤ L) (hkc : kc + 4 ≤ 600000) (hks : ks + 483 ≤ 7302250)
    (back : ∀ S' x' y', R (cc + 1) S' x' Sm y' → LW p l e s m below meth c D ty σ0 b (kc + 4) (ks + 483) 1159 [some (.ref 0), some (.ref 1), some (.ref 2), some (.int (nI i))] [] S' x' Sm y') : LW p l e s m below meth c D ty σ0 b kc ks 864 [some (.ref 0), some (.ref 1), some (.ref 2), some (.int (nI i))] [] Sx xx Sm xm := by
  obtain ⟨v, S', x', y', hgx, hgm, hR'⟩ := hO.2 cc Sx xx Sm xm 22 (xs (nI (i + 1)).toNatClampNeg) (xs (nI (i + 2)).toNatClampNeg) (xs (nI (i + 3)).toNatClampNeg) (xs (nI (i + 4)).toNatClampNeg) hc (by decide) hR
  obtain ⟨r1, hf1, he1⟩ := Option.map_eq_some_iff.mp hgx
  obtain ⟨r2, hf2, he2⟩ := Option.map_eq_some_iff.mp hgm
  cases he1
  have e1 := Value.long.inj (Option.some.inj (congrArg Prod.fst he2))
  have e2 := congrArg Prod.snd he2
  dsimp only at e1 e2
  subst e2
  obtain ⟨hWx, hTx, hWm, hTm⟩ := hO.1 cc Sx xx Sm xm hR
  refine LW.pure (pc' := 865) (st' := [.ref 1]) (fun hl k => lv_aload_n C.hx C.hb dL_law_864 rfl (hl.get (j := 1) (v := .ref 1) rfl) k) ?_
  refine LW.pure (pc' := 866) (st' := [.ref 0, .ref 1]) (fun hl k => lv_aload_n C.hx C.hb dL_law_865 rfl (hl.get (j := 0) (v := .ref 0) rfl) k) ?_
  refine LW.pure (pc' := 867) (st' := [.int (nI i), .ref 0, .ref 1]) (fun hl k => lv_iload_n C.hx C.hb dL_law_866 rfl (hl.get (j := 3) (v := .int (nI i)) rfl) k) ?_
  refine LW.pure (pc' := 868) (st' := [.int 1, .int (nI i), .ref 0, .ref 1]) (fun hl k => lv_iconst C.hx C.hb dL_law_867 (by decide) k) ?_
  refine LW.pure (pc' := 869) (st' := [.int (nI (i + 1)), .ref 0, .ref 1]) (fun hl k => lv_iadd C.hx C.hb dL_law_868 (by rw [show nI i + 1 = nI (i + 1) from nI_add i 1]; exact k)) ?_
  refine LW.sld (pc' := 870) C (vp_in_nI (by omega) (by omega)) dL_law_869 rfl ?_
  refine LW.pure (pc' := 871) (st' := [.ref 0, .int (xs (nI (i + 1)).toNatClampNeg), .ref 1]) (fun hl k => lv_aload_n C.hx C.hb dL_law_870 rfl (hl.get (j := 0) (v := .ref 0) rfl) k) ?_
  refine LW.pure (pc' := 872) (st' := [.int (nI i), .ref 0, .int (xs (nI (i + 1)).toNatClampNeg), .ref 1]) (fun hl k => lv_iload_n C.hx C.hb dL_law_871 rfl (hl.get (j := 3) (v := .int (nI i)) rfl) k) ?_
  refine LW.pure (pc' := 873) (st' := [.int 2, .int (nI i), .ref 0, .int (xs (nI (i + 1)).toNatClampNeg), .ref 1]) (fun hl k => lv_iconst C.hx C.hb dL_law_872 (by decide) k) ?_
  refine LW.pure (pc' := 874) (st' := [.int (nI (i + 2)), .ref 0, .int (xs (nI (i + 1)).toNatClampNeg), .ref 1]) (fun hl k => lv_iadd C.hx C.hb dL_law_873 (by rw [show nI i + 2 = nI (i + 2) from nI_add i 2]; exact k)) ?_
  refine LW.sld (pc' := 875) C (vp_in_nI (by omega) (by omega)) dL_law_874 rfl ?_
  refine lw_callX (M' := mX11_worth) (As := [.int (xs (nI (i + 1)).toNatClampNeg), .int (xs (nI (i + 2)).toNatClampNeg)]) (st := []) (mc := 0) (ms := 0) (dd := 200) (pc' := 878) C ln_PlateRoundLaw_118 lb_X11_worth (by decide) (t_X11_worth (N := N) (d := 200) hWx (by decide) hTx r1 hf1) (by simp [nR]) hTx (by simp [nR]) (Nat.le_of_ble_eq_true rfl) rfl dL_law_875 rfl (by omega) (by omega) (fun r S' x' q v hv => by rw [q.1] at hv; cases hv; trivial) (fun r S' x' q _ => ?_)
  obtain ⟨rfl, rfl, rfl⟩ := q
  show LW p l e s m below meth c D ty σ0 b (kc + 0) (ks + 0) 878 [some (.ref 0), some (.ref 1), some (.ref 2), some (.int (nI i))] [.long r1.1] _ _ _ _
  refine LW.pure (pc' := 879) (st' := [.ref 2, .long r1.1]) (fun hl k => lv_aload_n C.hx C.hb dL_law_878 rfl (hl.get (j := 2) (v := .ref 2) rfl) k) ?_
  refine LW.pure (pc' := 880) (st' := [.ref 0, .ref 2, .long r1.1]) (fun hl k => lv_aload_n C.hx C.hb dL_law_879 rfl (hl.get (j := 0) (v := .ref 0) rfl) k) ?_
  refine LW.pure (pc' := 881) (st' := [.int (nI i), .ref 0, .ref 2, .long r1.1]) (fun hl k => lv_iload_n C.hx C.hb dL_law_880 rfl (hl.get (j := 3) (v := .int (nI i)) rfl) k) ?_
  refine LW.pure (pc' := 882) (st' := [.int 1, .int (nI i), .ref 0, .ref 2, .long r1.1]) (fun hl k => lv_iconst C.hx C.hb dL_law_881 (by decide) k) ?_
  refine LW.pure (pc' := 883) (st' := [.int (nI (i + 1)), .ref 0, .ref 2, .long r1.1]) (fun hl k => lv_iadd C.hx C.hb dL_law_882 (by rw [show nI i + 1 = nI (i + 1) from nI_add i 1]; exact k)) ?_
  refine LW.sld (pc' := 884) C (vp_in_nI (by omega) (by omega)) dL_law_883 rfl ?_
  refine LW.pure (pc' := 885) (st' := [.ref 0, .int (xs (nI (i + 1)).toNatClampNeg), .ref 2, .long r1.1]) (fun hl k => lv_aload_n C.hx C.hb dL_law_884 rfl (hl.get (j := 0) (v := .ref 0) rfl) k) ?_
  refine LW.pure (pc' := 886) (st' := [.int (nI i), .ref 0, .int (xs (nI (i + 1)).toNatClampNeg), .ref 2, .long r1.1]) (fun hl k => lv_iload_n C.hx C.hb dL_law_885 rfl (hl.get (j := 3) (v := .int (nI i)) rfl) k) ?_
  refine LW.pure (pc' := 887) (st' := [.int 2, .int (nI i), .ref 0, .int (xs (nI (i + 1)).toNatClampNeg), .ref 2, .long r1.1]) (fun hl k => lv_iconst C.hx C.hb dL_law_886 (by decide) k) ?_
  refine LW.pure (pc' := 888) (st' := [.int (nI (i + 2)), .ref 0, .int (xs (nI (i + 1)).toNatClampNeg), .ref 2, .long r1.1]) (fun hl k => lv_iadd C.hx C.hb dL_law_887 (by rw [show nI i + 2 = nI (i + 2) from nI_add i 2]; exact k)) ?_
  refine LW.sld (pc' := 889) C (vp_in_nI (by omega) (by omega)) dL_law_888 rfl ?_
  refine lw_callM (M' := mX12_worth) (As := [.int (xs (nI (i + 1)).toNatClampNeg), .int (xs (nI (i + 2)).toNatClampNeg)]) (st := [.long r1.1]) (mc := 0) (ms := 0) (dd := 200) (pc' := 892) C ln_PlateRoundLaw_121 lb_X12_worth (by decide) (t_X12_worth (N := N) (d := 200) hWm (by decide) hTm r2 hf2) (by simp [nR]) hTm (by simp [nR]) (Nat.le_of_ble_eq_true rfl) rfl dL_law_889 rfl (by omega) (by omega) (fun r S' x' q v hv => by rw [q.1] at hv; cases hv; trivial) (fun r S' x' q _ => ?_)
  obtain ⟨rfl, rfl, rfl⟩ := q
  show LW p l e s m below meth c D ty σ0 b ((kc + 0) + 0) ((ks + 0) + 0) 892 [some (.ref 0), some (.ref 1), some (.ref 2), some (.int (nI i))] [.long r2.1, .long r1.1] _ _ _ _
  refine LW.pure (pc' := 893) (st' := [.int (lg_cmp r1.1 r2.1)]) (fun hl k => W.lcmp C.hx C.hb dL_law_892 k) ?_
  refine LW.br (c1 := lg_cmp r1.1 r2.1 = 0) (pc1 := 1159) (pc' := 896) (st' := []) (fun kt kf => lv_if_eq C.hx C.hb dL_law_893 (by decide) kt kf) (fun _ => ?_) (fun h => absurd (by rw [e1]; exact lg_self _) h)
  exact LW.widen (by omega) (by omega) (back _ _ _ hR')
set_option maxHeartbeats 2000000 in
theorem law_case23 (C : LC p s m meth c b L xs D ty σ0) (hL : L ≤ 2561) (hO : LAWOK N R) {cc i kc ks : Nat} {Sx Sm : SH} {xx xm : DY} (hc : cc < 512) (hR : R cc Sx xx Sm xm) (hi : i + 5 ≤ L) (hkc : kc + 4 ≤ 600000) (hks : ks + 483 ≤ 7302250)
    (back : ∀ S' x' y', R (cc + 1) S' x' Sm y' → LW p l e s m below meth c D ty σ0 b (kc + 4) (ks + 483) 1159 [some (.ref 0), some (.ref 1), some (.ref 2), some (.int (nI i))] [] S' x' Sm y') : LW p l e s m below meth c D ty σ0 b kc ks 898 [some (.ref 0), some (.ref 1), some (.ref 2), some (.int (nI i))] [] Sx xx Sm xm := by
  obtain ⟨v, S', x', y', hgx, hgm, hR'⟩ := hO.2 cc Sx xx Sm xm 23 (xs (nI (i + 1)).toNatClampNeg) (xs (nI (i + 2)).toNatClampNeg) (xs (nI (i + 3)).toNatClampNeg) (xs (nI (i + 4)).toNatClampNeg) hc (by decide) hR
  obtain ⟨r1, hf1, he1⟩ := Option.map_eq_some_iff.mp hgx
  obtain ⟨r2, hf2, he2⟩ := Option.map_eq_some_iff.mp hgm
  cases he1
  have e1 := Value.int.inj (Option.some.inj (congrArg Prod.fst he2))
  have e2 := congrArg Prod.snd he2
  dsimp only at e1 e2
  subst e2
  obtain ⟨hWx, hTx, hWm, hTm⟩ := hO.1 cc Sx xx Sm xm hR
  refine LW.pure (pc' := 899) (st' := [.ref 1]) (fun hl k => lv_aload_n C.hx C.hb dL_law_898 rfl (hl.get (j := 1) (v := .ref 1) rfl) k) ?_
  refine LW.pure (pc' := 900) (st' := [.ref 0, .ref 1]) (fun hl k => lv_aload_n C.hx C.hb dL_law_899 rfl (hl.get (j := 0) (v := .ref 0) rfl) k) ?_
  refine LW.pure (pc' := 901) (st' := [.int (nI i), .ref 0, .ref 1]) (fun hl k => lv_iload_n C.hx C.hb dL_law_900 rfl (hl.get (j := 3) (v := .int (nI i)) rfl) k) ?_
  refine LW.pure (pc' := 902) (st' := [.int 1, .int (nI i), .ref 0, .ref 1]) (fun hl k => lv_iconst C.hx C.hb dL_law_901 (by decide) k) ?_
  refine LW.pure (pc' := 903) (st' := [.int (nI (i + 1)), .ref 0, .ref 1]) (fun hl k => lv_iadd C.hx C.hb dL_law_902 (by rw [show nI i + 1 = nI (i + 1) from nI_add i 1]; exact k)) ?_
  refine LW.sld (pc' := 904) C (vp_in_nI (by omega) (by omega)) dL_law_903 rfl ?_
  refine LW.pure (pc' := 905) (st' := [.ref 0, .int (xs (nI (i + 1)).toNatClampNeg), .ref 1]) (fun hl k => lv_aload_n C.hx C.hb dL_law_904 rfl (hl.get (j := 0) (v := .ref 0) rfl) k) ?_
  refine LW.pure (pc' := 906) (st' := [.int (nI i), .ref 0, .int (xs (nI (i + 1)).toNatClampNeg), .ref 1]) (fun hl k => lv_iload_n C.hx C.hb dL_law_905 rfl (hl.get (j := 3) (v := .int (nI i)) rfl) k) ?_
  refine LW.pure (pc' := 907) (st' := [.int 2, .int (nI i), .ref 0, .int (xs (nI (i + 1)).toNatClampNeg), .ref 1]) (fun hl k => lv_iconst C.hx C.hb dL_law_906 (by decide) k) ?_
  refine LW.pure (pc' := 908) (st' := [.int (nI (i + 2)), .ref 0, .int (xs (nI (i + 1)).toNatClampNeg), .ref 1]) (fun hl k => lv_iadd C.hx C.hb dL_law_907 (by rw [show nI i + 2 = nI (i + 2) from nI_add i 2]; exact k)) ?_
  refine LW.sld (pc' := 909) C (vp_in_nI (by omega) (by omega)) dL_law_908 rfl ?_
  refine lw_callX (M' := mX11_piece) (As := [.int (xs (nI (i + 1)).toNatClampNeg), .int (xs (nI (i + 2)).toNatClampNeg)]) (st := []) (mc := 0) (ms := 0) (dd := 200) (pc' := 912) C ln_PlateRoundLaw_122 lb_X11_piece (by decide) (t_X11_piece (N := N) (d := 200) hWx (by decide) hTx r1 hf1) (by simp [nR]) hTx (by simp [nR]) (Nat.le_of_ble_eq_true rfl) rfl dL_law_909 rfl (by omega) (by omega) (fun r S' x' q v hv => by rw [q.1] at hv; cases hv; trivial) (fun r S' x' q _ => ?_)
  obtain ⟨rfl, rfl, rfl⟩ := q
  show LW p l e s m below meth c D ty σ0 b (kc + 0) (ks + 0) 912 [some (.ref 0), some (.ref 1), some (.ref 2), some (.int (nI i))] [.int r1.1] _ _ _ _
  refine LW.pure (pc' := 913) (st' := [.ref 2, .int r1.1]) (fun hl k => lv_aload_n C.hx C.hb dL_law_912 rfl (hl.get (j := 2) (v := .ref 2) rfl) k) ?_
  refine LW.pure (pc' := 914) (st' := [.ref 0, .ref 2, .int r1.1]) (fun hl k => lv_aload_n C.hx C.hb dL_law_913 rfl (hl.get (j := 0) (v := .ref 0) rfl) k) ?_
  refine LW.pure (pc' := 915) (st' := [.int (nI i), .ref 0, .ref 2, .int r1.1]) (fun hl k => lv_iload_n C.hx C.hb dL_law_914 rfl (hl.get (j := 3) (v := .int (nI i)) rfl) k) ?_
  refine LW.pure (pc' := 916) (st' := [.int 1, .int (nI i), .ref 0, .ref 2, .int r1.1]) (fun hl k => lv_iconst C.hx C.hb dL_law_915 (by decide) k) ?_
  refine LW.pure (pc' := 917) (st' := [.int (nI (i + 1)), .ref 0, .ref 2, .int r1.1]) (fun hl k => lv_iadd C.hx C.hb dL_law_916 (by rw [show nI i + 1 = nI (i + 1) from nI_add i 1]; exact k)) ?_
  refine LW.sld (pc' := 918) C (vp_in_nI (by omega) (by omega)) dL_law_917 rfl ?_
  refine LW.pure (pc' := 919) (st' := [.ref 0, .int (xs (nI (i + 1)).toNatClampNeg), .ref 2, .int r1.1]) (fun hl k => lv_aload_n C.hx C.hb dL_law_918 rfl (hl.get (j := 0) (v := .ref 0) rfl) k) ?_
  refine LW.pure (pc' := 920) (st' := [.int (nI i), .ref 0, .int (xs (nI (i + 1)).toNatClampNeg), .ref 2, .int r1.1]) (fun hl k => lv_iload_n C.hx C.hb dL_law_919 rfl (hl.get (j := 3) (v := .int (nI i)) rfl) k) ?_
  refine LW.pure (pc' := 921) (st' := [.int 2, .int (nI i), .ref 0, .int (xs (nI (i + 1)).toNatClampNeg), .ref 2, .int r1.1]) (fun hl k => lv_iconst C.hx C.hb dL_law_920 (by decide) k) ?_
  refine LW.pure (pc' := 922) (st' := [.int (nI (i + 2)), .ref 0, .int (xs (nI (i + 1)).toNatClampNeg), .ref 2, .int r1.1]) (fun hl k => lv_iadd C.hx C.hb dL_law_921 (by rw [show nI i + 2 = nI (i + 2) from nI_add i 2]; exact k)) ?_
  refine LW.sld (pc' := 923) C (vp_in_nI (by omega) (by omega)) dL_law_922 rfl ?_
  refine lw_callM (M' := mX12_piece) (As := [.int (xs (nI (i + 1)).toNatClampNeg), .int (xs (nI (i + 2)).toNatClampNeg)]) (st := [.int r1.1]) (mc := 0) (ms := 0) (dd := 200) (pc' := 926) C ln_PlateRoundLaw_125 lb_X12_piece (by decide) (t_X12_piece (N := N) (d := 200) hWm (by decide) hTm r2 hf2) (by simp [nR]) hTm (by simp [nR]) (Nat.le_of_ble_eq_true rfl) rfl dL_law_923 rfl (by omega) (by omega) (fun r S' x' q v hv => by rw [q.1] at hv; cases hv; trivial) (fun r S' x' q _ => ?_)
  obtain ⟨rfl, rfl, rfl⟩ := q
  show LW p l e s m below meth c D ty σ0 b ((kc + 0) + 0) ((ks + 0) + 0) 926 [some (.ref 0), some (.ref 1), some (.ref 2), some (.int (nI i))] [.int r2.1, .int r1.1] _ _ _ _
  refine LW.br (c1 := r1.1 = r2.1) (pc1 := 1159) (pc' := 929) (st' := []) (fun kt kf => lv_icmp_eq C.hx C.hb dL_law_926 (by decide) kt kf) (fun _ => ?_) (fun h => absurd e1.symm h)
  exact LW.widen (by omega) (by omega) (back _ _ _ hR')
set_option maxHeartbeats 2000000 in
theorem law_case24 (C : LC p s m meth c b L xs D ty σ0) (hL : L ≤ 2561) (hO : LAWOK N R) {cc i kc ks : Nat} {Sx Sm : SH} {xx xm : DY} (hc : cc < 512) (hR : R cc Sx xx Sm xm) (hi : i + 5 ≤ L) (hkc : kc + 4 ≤ 600000) (hks : ks + 483 ≤ 7302250)
    (back : ∀ S' x' y', R (cc + 1) S' x' Sm y' → LW p l e s m below meth c D ty σ0 b (kc + 4) (ks + 483) 1159 [some (.ref 0), some (.ref 1), some (.ref 2), some (.int (nI i))] [] S' x' Sm y') : LW p l e s m below meth c D ty σ0 b kc ks 931 [some (.ref 0), some (.ref 1), some (.ref 2), some (.int (nI i))] [] Sx xx Sm xm := by
  obtain ⟨v, S', x', y', hgx, hgm, hR'⟩ := hO.2 cc Sx xx Sm xm 24 (xs (nI (i + 1)).toNatClampNeg) (xs (nI (i + 2)).toNatClampNeg) (xs (nI (i + 3)).toNatClampNeg) (xs (nI (i + 4)).toNatClampNeg) hc (by decide) hR
  obtain ⟨r1, hf1, he1⟩ := Option.map_eq_some_iff.mp hgx
  obtain ⟨r2, hf2, he2⟩ := Option.map_eq_some_iff.mp hgm
  cases he1
  have e1 := Value.int.inj (Option.some.inj (congrArg Prod.fst he2))
  have e2 := congrArg Prod.snd he2
  dsimp only at e1 e2
  subst e2
  obtain ⟨hWx, hTx, hWm, hTm⟩ := hO.1 cc Sx xx Sm xm hR
  refine LW.pure (pc' := 932) (st' := [.ref 1]) (fun hl k => lv_aload_n C.hx C.hb dL_law_931 rfl (hl.get (j := 1) (v := .ref 1) rfl) k) ?_
  refine LW.pure (pc' := 933) (st' := [.ref 0, .ref 1]) (fun hl k => lv_aload_n C.hx C.hb dL_law_932 rfl (hl.get (j := 0) (v := .ref 0) rfl) k) ?_
  refine LW.pure (pc' := 934) (st' := [.int (nI i), .ref 0, .ref 1]) (fun hl k => lv_iload_n C.hx C.hb dL_law_933 rfl (hl.get (j := 3) (v := .int (nI i)) rfl) k) ?_
  refine LW.pure (pc' := 935) (st' := [.int 1, .int (nI i), .ref 0, .ref 1]) (fun hl k => lv_iconst C.hx C.hb dL_law_934 (by decide) k) ?_
  refine LW.pure (pc' := 936) (st' := [.int (nI (i + 1)), .ref 0, .ref 1]) (fun hl k => lv_iadd C.hx C.hb dL_law_935 (by rw [show nI i + 1 = nI (i + 1) from nI_add i 1]; exact k)) ?_
  refine LW.sld (pc' := 937) C (vp_in_nI (by omega) (by omega)) dL_law_936 rfl ?_
  refine LW.pure (pc' := 938) (st' := [.ref 0, .int (xs (nI (i + 1)).toNatClampNeg), .ref 1]) (fun hl k => lv_aload_n C.hx C.hb dL_law_937 rfl (hl.get (j := 0) (v := .ref 0) rfl) k) ?_
  refine LW.pure (pc' := 939) (st' := [.int (nI i), .ref 0, .int (xs (nI (i + 1)).toNatClampNeg), .ref 1]) (fun hl k => lv_iload_n C.hx C.hb dL_law_938 rfl (hl.get (j := 3) (v := .int (nI i)) rfl) k) ?_
  refine LW.pure (pc' := 940) (st' := [.int 2, .int (nI i), .ref 0, .int (xs (nI (i + 1)).toNatClampNeg), .ref 1]) (fun hl k => lv_iconst C.hx C.hb dL_law_939 (by decide) k) ?_
  refine LW.pure (pc' := 941) (st' := [.int (nI (i + 2)), .ref 0, .int (xs (nI (i + 1)).toNatClampNeg), .ref 1]) (fun hl k => lv_iadd C.hx C.hb dL_law_940 (by rw [show nI i + 2 = nI (i + 2) from nI_add i 2]; exact k)) ?_
  refine LW.sld (pc' := 942) C (vp_in_nI (by omega) (by omega)) dL_law_941 rfl ?_
  refine lw_callX (M' := mX11_cut) (As := [.int (xs (nI (i + 1)).toNatClampNeg), .int (xs (nI (i + 2)).toNatClampNeg)]) (st := []) (mc := 0) (ms := 0) (dd := 200) (pc' := 945) C ln_PlateRoundLaw_126 lb_X11_cut (by decide) (t_X11_cut (N := N) (d := 200) hWx (by decide) hTx r1 hf1) (by simp [nR]) hTx (by simp [nR]) (Nat.le_of_ble_eq_true rfl) rfl dL_law_942 rfl (by omega) (by omega) (fun r S' x' q v hv => by rw [q.1] at hv; cases hv; trivial) (fun r S' x' q _ => ?_)
  obtain ⟨rfl, rfl, rfl⟩ := q
  show LW p l e s m below meth c D ty σ0 b (kc + 0) (ks + 0) 945 [some (.ref 0), some (.ref 1), some (.ref 2), some (.int (nI i))] [.int r1.1] _ _ _ _
  refine LW.pure (pc' := 946) (st' := [.ref 2, .int r1.1]) (fun hl k => lv_aload_n C.hx C.hb dL_law_945 rfl (hl.get (j := 2) (v := .ref 2) rfl) k) ?_
  refine LW.pure (pc' := 947) (st' := [.ref 0, .ref 2, .int r1.1]) (fun hl k => lv_aload_n C.hx C.hb dL_law_946 rfl (hl.get (j := 0) (v := .ref 0) rfl) k) ?_
  refine LW.pure (pc' := 948) (st' := [.int (nI i), .ref 0, .ref 2, .int r1.1]) (fun hl k => lv_iload_n C.hx C.hb dL_law_947 rfl (hl.get (j := 3) (v := .int (nI i)) rfl) k) ?_
  refine LW.pure (pc' := 949) (st' := [.int 1, .int (nI i), .ref 0, .ref 2, .int r1.1]) (fun hl k => lv_iconst C.hx C.hb dL_law_948 (by decide) k) ?_
  refine LW.pure (pc' := 950) (st' := [.int (nI (i + 1)), .ref 0, .ref 2, .int r1.1]) (fun hl k => lv_iadd C.hx C.hb dL_law_949 (by rw [show nI i + 1 = nI (i + 1) from nI_add i 1]; exact k)) ?_
  refine LW.sld (pc' := 951) C (vp_in_nI (by omega) (by omega)) dL_law_950 rfl ?_
  refine LW.pure (pc' := 952) (st' := [.ref 0, .int (xs (nI (i + 1)).toNatClampNeg), .ref 2, .int r1.1]) (fun hl k => lv_aload_n C.hx C.hb dL_law_951 rfl (hl.get (j := 0) (v := .ref 0) rfl) k) ?_
  refine LW.pure (pc' := 953) (st' := [.int (nI i), .ref 0, .int (xs (nI (i + 1)).toNatClampNeg), .ref 2, .int r1.1]) (fun hl k => lv_iload_n C.hx C.hb dL_law_952 rfl (hl.get (j := 3) (v := .int (nI i)) rfl) k) ?_
  refine LW.pure (pc' := 954) (st' := [.int 2, .int (nI i), .ref 0, .int (xs (nI (i + 1)).toNatClampNeg), .ref 2, .int r1.1]) (fun hl k => lv_iconst C.hx C.hb dL_law_953 (by decide) k) ?_
  refine LW.pure (pc' := 955) (st' := [.int (nI (i + 2)), .ref 0, .int (xs (nI (i + 1)).toNatClampNeg), .ref 2, .int r1.1]) (fun hl k => lv_iadd C.hx C.hb dL_law_954 (by rw [show nI i + 2 = nI (i + 2) from nI_add i 2]; exact k)) ?_
  refine LW.sld (pc' := 956) C (vp_in_nI (by omega) (by omega)) dL_law_955 rfl ?_
  refine lw_callM (M' := mX12_cut) (As := [.int (xs (nI (i + 1)).toNatClampNeg), .int (xs (nI (i + 2)).toNatClampNeg)]) (st := [.int r1.1]) (mc := 0) (ms := 0) (dd := 200) (pc' := 959) C ln_PlateRoundLaw_129 lb_X12_cut (by decide) (t_X12_cut (N := N) (d := 200) hWm (by decide) hTm r2 hf2) (by simp [nR]) hTm (by simp [nR]) (Nat.le_of_ble_eq_true rfl) rfl dL_law_956 rfl (by omega) (by omega) (fun r S' x' q v hv => by rw [q.1] at hv; cases hv; trivial) (fun r S' x' q _ => ?_)
  obtain ⟨rfl, rfl, rfl⟩ := q
  show LW p l e s m below meth c D ty σ0 b ((kc + 0) + 0) ((ks + 0) + 0) 959 [some (.ref 0), some (.ref 1), some (.ref 2), some (.int (nI i))] [.int r2.1, .int r1.1] _ _ _ _
  refine LW.br (c1 := r1.1 = r2.1) (pc1 := 1159) (pc' := 962) (st' := []) (fun kt kf => lv_icmp_eq C.hx C.hb dL_law_959 (by decide) kt kf) (fun _ => ?_) (fun h => absurd e1.symm h)
  exact LW.widen (by omega) (by omega) (back _ _ _ hR')
set_option maxHeartbeats 2000000 in
theorem law_case25 (C : LC p s m meth c b L xs D ty σ0) (hL : L ≤ 2561) (hO : LAWOK N R) {cc i kc ks : Nat} {Sx Sm : SH} {xx xm : DY} (hc : cc < 512) (hR : R cc Sx xx Sm xm) (hi : i + 5 ≤ L) (hkc : kc + 4 ≤ 600000) (hks : ks + 483 ≤ 7302250)
    (back : ∀ S' x' y', R (cc + 1) S' x' Sm y' → LW p l e s m below meth c D ty σ0 b (kc + 4) (ks + 483) 1159 [some (.ref 0), some (.ref 1), some (.ref 2), some (.int (nI i))] [] S' x' Sm y') : LW p l e s m below meth c D ty σ0 b kc ks 964 [some (.ref 0), some (.ref 1), some (.ref 2), some (.int (nI i))] [] Sx xx Sm xm := by
  obtain ⟨v, S', x', y', hgx, hgm, hR'⟩ := hO.2 cc Sx xx Sm xm 25 (xs (nI (i + 1)).toNatClampNeg) (xs (nI (i + 2)).toNatClampNeg) (xs (nI (i + 3)).toNatClampNeg) (xs (nI (i + 4)).toNatClampNeg) hc (by decide) hR
  obtain ⟨r1, hf1, he1⟩ := Option.map_eq_some_iff.mp hgx
  obtain ⟨r2, hf2, he2⟩ := Option.map_eq_some_iff.mp hgm
  cases he1
  have e1 := Value.int.inj (Option.some.inj (congrArg Prod.fst he2))
  have e2 := congrArg Prod.snd he2
  dsimp only at e1 e2
  subst e2
  obtain ⟨hWx, hTx, hWm, hTm⟩ := hO.1 cc Sx xx Sm xm hR
  refine LW.pure (pc' := 965) (st' := [.ref 1]) (fun hl k => lv_aload_n C.hx C.hb dL_law_964 rfl (hl.get (j := 1) (v := .ref 1) rfl) k) ?_
  refine LW.pure (pc' := 966) (st' := [.ref 0, .ref 1]) (fun hl k => lv_aload_n C.hx C.hb dL_law_965 rfl (hl.get (j := 0) (v := .ref 0) rfl) k) ?_
  refine LW.pure (pc' := 967) (st' := [.int (nI i), .ref 0, .ref 1]) (fun hl k => lv_iload_n C.hx C.hb dL_law_966 rfl (hl.get (j := 3) (v := .int (nI i)) rfl) k) ?_
  refine LW.pure (pc' := 968) (st' := [.int 1, .int (nI i), .ref 0, .ref 1]) (fun hl k => lv_iconst C.hx C.hb dL_law_967 (by decide) k) ?_
  refine LW.pure (pc' := 969) (st' := [.int (nI (i + 1)), .ref 0, .ref 1]) (fun hl k => lv_iadd C.hx C.hb dL_law_968 (by rw [show nI i + 1 = nI (i + 1) from nI_add i 1]; exact k)) ?_
  refine LW.sld (pc' := 970) C (vp_in_nI (by omega) (by omega)) dL_law_969 rfl ?_
  refine lw_callX (M' := mX11_count) (As := [.int (xs (nI (i + 1)).toNatClampNeg)]) (st := []) (mc := 0) (ms := 0) (dd := 200) (pc' := 973) C ln_PlateRoundLaw_130 lb_X11_count (by decide) (t_X11_count (N := N) (d := 200) hWx (by decide) hTx r1 hf1) (by simp [nR]) hTx (by simp [nR]) (Nat.le_of_ble_eq_true rfl) rfl dL_law_970 rfl (by omega) (by omega) (fun r S' x' q v hv => by rw [q.1] at hv; cases hv; trivial) (fun r S' x' q _ => ?_)
  obtain ⟨rfl, rfl, rfl⟩ := q
  show LW p l e s m below meth c D ty σ0 b (kc + 0) (ks + 0) 973 [some (.ref 0), some (.ref 1), some (.ref 2), some (.int (nI i))] [.int r1] _ _ _ _
  refine LW.pure (pc' := 974) (st' := [.ref 2, .int r1]) (fun hl k => lv_aload_n C.hx C.hb dL_law_973 rfl (hl.get (j := 2) (v := .ref 2) rfl) k) ?_
  refine LW.pure (pc' := 975) (st' := [.ref 0, .ref 2, .int r1]) (fun hl k => lv_aload_n C.hx C.hb dL_law_974 rfl (hl.get (j := 0) (v := .ref 0) rfl) k) ?_
  refine LW.pure (pc' := 976) (st' := [.int (nI i), .ref 0, .ref 2, .int r1]) (fun hl k => lv_iload_n C.hx C.hb dL_law_975 rfl (hl.get (j := 3) (v := .int (nI i)) rfl) k) ?_
  refine LW.pure (pc' := 977) (st' := [.int 1, .int (nI i), .ref 0, .ref 2, .int r1]) (fun hl k => lv_iconst C.hx C.hb dL_law_976 (by decide) k) ?_
  refine LW.pure (pc' := 978) (st' := [.int (nI (i + 1)), .ref 0, .ref 2, .int r1]) (fun hl k => lv_iadd C.hx C.hb dL_law_977 (by rw [show nI i + 1 = nI (i + 1) from nI_add i 1]; exact k)) ?_
  refine LW.sld (pc' := 979) C (vp_in_nI (by omega) (by omega)) dL_law_978 rfl ?_
  refine lw_callM (M' := mX12_count) (As := [.int (xs (nI (i + 1)).toNatClampNeg)]) (st := [.int r1]) (mc := 0) (ms := 0) (dd := 200) (pc' := 982) C ln_PlateRoundLaw_133 lb_X12_count (by decide) (t_X12_count (N := N) (d := 200) hWm (by decide) hTm r2 hf2) (by simp [nR]) hTm (by simp [nR]) (Nat.le_of_ble_eq_true rfl) rfl dL_law_979 rfl (by omega) (by omega) (fun r S' x' q v hv => by rw [q.1] at hv; cases hv; trivial) (fun r S' x' q _ => ?_)
  obtain ⟨rfl, rfl, rfl⟩ := q
  show LW p l e s m below meth c D ty σ0 b ((kc + 0) + 0) ((ks + 0) + 0) 982 [some (.ref 0), some (.ref 1), some (.ref 2), some (.int (nI i))] [.int r2, .int r1] _ _ _ _
  refine LW.br (c1 := r1 = r2) (pc1 := 1159) (pc' := 985) (st' := []) (fun kt kf => lv_icmp_eq C.hx C.hb dL_law_982 (by decide) kt kf) (fun _ => ?_) (fun h => absurd e1.symm h)
  exact LW.widen (by omega) (by omega) (back _ _ _ hR')
set_option maxHeartbeats 2000000 in
theorem law_case26 (C : LC p s m meth c b L xs D ty σ0) (hL : L ≤ 2561) (hO : LAWOK N R) {cc i kc ks : Nat} {Sx Sm : SH} {xx xm : DY} (hc : cc < 512) (hR : R cc Sx xx Sm xm) (hi : i + 5 ≤ L) (hkc : kc + 4 ≤ 600000) (hks : ks + 483 ≤ 7302250)
    (back : ∀ S' x' y', R (cc + 1) S' x' Sm y' → LW p l e s m below meth c D ty σ0 b (kc + 4) (ks + 483) 1159 [some (.ref 0), some (.ref 1), some (.ref 2), some (.int (nI i))] [] S' x' Sm y') : LW p l e s m below meth c D ty σ0 b kc ks 987 [some (.ref 0), some (.ref 1), some (.ref 2), some (.int (nI i))] [] Sx xx Sm xm := by
  obtain ⟨v, S', x', y', hgx, hgm, hR'⟩ := hO.2 cc Sx xx Sm xm 26 (xs (nI (i + 1)).toNatClampNeg) (xs (nI (i + 2)).toNatClampNeg) (xs (nI (i + 3)).toNatClampNeg) (xs (nI (i + 4)).toNatClampNeg) hc (by decide) hR
  obtain ⟨r1, hf1, he1⟩ := Option.map_eq_some_iff.mp hgx
  obtain ⟨r2, hf2, he2⟩ := Option.map_eq_some_iff.mp hgm
  cases he1
  have e1 := Value.int.inj (Option.some.inj (congrArg Prod.fst he2))
  have e2 := congrArg Prod.snd he2
  dsimp only at e1 e2
  subst e2
  obtain ⟨hWx, hTx, hWm, hTm⟩ := hO.1 cc Sx xx Sm xm hR
  refine LW.pure (pc' := 988) (st' := [.ref 1]) (fun hl k => lv_aload_n C.hx C.hb dL_law_987 rfl (hl.get (j := 1) (v := .ref 1) rfl) k) ?_
  refine LW.pure (pc' := 989) (st' := [.ref 0, .ref 1]) (fun hl k => lv_aload_n C.hx C.hb dL_law_988 rfl (hl.get (j := 0) (v := .ref 0) rfl) k) ?_
  refine LW.pure (pc' := 990) (st' := [.int (nI i), .ref 0, .ref 1]) (fun hl k => lv_iload_n C.hx C.hb dL_law_989 rfl (hl.get (j := 3) (v := .int (nI i)) rfl) k) ?_
  refine LW.pure (pc' := 991) (st' := [.int 1, .int (nI i), .ref 0, .ref 1]) (fun hl k => lv_iconst C.hx C.hb dL_law_990 (by decide) k) ?_
  refine LW.pure (pc' := 992) (st' := [.int (nI (i + 1)), .ref 0, .ref 1]) (fun hl k => lv_iadd C.hx C.hb dL_law_991 (by rw [show nI i + 1 = nI (i + 1) from nI_add i 1]; exact k)) ?_
  refine LW.sld (pc' := 993) C (vp_in_nI (by omega) (by omega)) dL_law_992 rfl ?_
  refine LW.pure (pc' := 994) (st' := [.ref 0, .int (xs (nI (i + 1)).toNatClampNeg), .ref 1]) (fun hl k => lv_aload_n C.hx C.hb dL_law_993 rfl (hl.get (j := 0) (v := .ref 0) rfl) k) ?_
  refine LW.pure (pc' := 995) (st' := [.int (nI i), .ref 0, .int (xs (nI (i + 1)).toNatClampNeg), .ref 1]) (fun hl k => lv_iload_n C.hx C.hb dL_law_994 rfl (hl.get (j := 3) (v := .int (nI i)) rfl) k) ?_
  refine LW.pure (pc' := 996) (st' := [.int 2, .int (nI i), .ref 0, .int (xs (nI (i + 1)).toNatClampNeg), .ref 1]) (fun hl k => lv_iconst C.hx C.hb dL_law_995 (by decide) k) ?_
  refine LW.pure (pc' := 997) (st' := [.int (nI (i + 2)), .ref 0, .int (xs (nI (i + 1)).toNatClampNeg), .ref 1]) (fun hl k => lv_iadd C.hx C.hb dL_law_996 (by rw [show nI i + 2 = nI (i + 2) from nI_add i 2]; exact k)) ?_
  refine LW.sld (pc' := 998) C (vp_in_nI (by omega) (by omega)) dL_law_997 rfl ?_
  refine LW.pure (pc' := 999) (st' := [.ref 0, .int (xs (nI (i + 2)).toNatClampNeg), .int (xs (nI (i + 1)).toNatClampNeg), .ref 1]) (fun hl k => lv_aload_n C.hx C.hb dL_law_998 rfl (hl.get (j := 0) (v := .ref 0) rfl) k) ?_
  refine LW.pure (pc' := 1000) (st' := [.int (nI i), .ref 0, .int (xs (nI (i + 2)).toNatClampNeg), .int (xs (nI (i + 1)).toNatClampNeg), .ref 1]) (fun hl k => lv_iload_n C.hx C.hb dL_law_999 rfl (hl.get (j := 3) (v := .int (nI i)) rfl) k) ?_
  refine LW.pure (pc' := 1001) (st' := [.int 3, .int (nI i), .ref 0, .int (xs (nI (i + 2)).toNatClampNeg), .int (xs (nI (i + 1)).toNatClampNeg), .ref 1]) (fun hl k => lv_iconst C.hx C.hb dL_law_1000 (by decide) k) ?_
  refine LW.pure (pc' := 1002) (st' := [.int (nI (i + 3)), .ref 0, .int (xs (nI (i + 2)).toNatClampNeg), .int (xs (nI (i + 1)).toNatClampNeg), .ref 1]) (fun hl k => lv_iadd C.hx C.hb dL_law_1001 (by rw [show nI i + 3 = nI (i + 3) from nI_add i 3]; exact k)) ?_
  refine LW.sld (pc' := 1003) C (vp_in_nI (by omega) (by omega)) dL_law_1002 rfl ?_
  refine lw_callX (M' := mX11_sheet) (As := [.int (xs (nI (i + 1)).toNatClampNeg), .int (xs (nI (i + 2)).toNatClampNeg), .int (xs (nI (i + 3)).toNatClampNeg)]) (st := []) (mc := 0) (ms := 0) (dd := 200) (pc' := 1006) C ln_PlateRoundLaw_134 lb_X11_sheet (by decide) (t_X11_sheet (N := N) (d := 200) hWx (by decide) hTx r1 hf1) (by simp [nR]) hTx (by simp [nR]) (Nat.le_of_ble_eq_true rfl) rfl dL_law_1003 rfl (by omega) (by omega) (fun r S' x' q v hv => by rw [q.1] at hv; cases hv; trivial) (fun r S' x' q _ => ?_)
  obtain ⟨rfl, rfl, rfl⟩ := q
  show LW p l e s m below meth c D ty σ0 b (kc + 0) (ks + 0) 1006 [some (.ref 0), some (.ref 1), some (.ref 2), some (.int (nI i))] [.int r1.1] _ _ _ _
  refine LW.pure (pc' := 1007) (st' := [.ref 2, .int r1.1]) (fun hl k => lv_aload_n C.hx C.hb dL_law_1006 rfl (hl.get (j := 2) (v := .ref 2) rfl) k) ?_
  refine LW.pure (pc' := 1008) (st' := [.ref 0, .ref 2, .int r1.1]) (fun hl k => lv_aload_n C.hx C.hb dL_law_1007 rfl (hl.get (j := 0) (v := .ref 0) rfl) k) ?_
  refine LW.pure (pc' := 1009) (st' := [.int (nI i), .ref 0, .ref 2, .int r1.1]) (fun hl k => lv_iload_n C.hx C.hb dL_law_1008 rfl (hl.get (j := 3) (v := .int (nI i)) rfl) k) ?_
  refine LW.pure (pc' := 1010) (st' := [.int 1, .int (nI i), .ref 0, .ref 2, .int r1.1]) (fun hl k => lv_iconst C.hx C.hb dL_law_1009 (by decide) k) ?_
  refine LW.pure (pc' := 1011) (st' := [.int (nI (i + 1)), .ref 0, .ref 2, .int r1.1]) (fun hl k => lv_iadd C.hx C.hb dL_law_1010 (by rw [show nI i + 1 = nI (i + 1) from nI_add i 1]; exact k)) ?_
  refine LW.sld (pc' := 1012) C (vp_in_nI (by omega) (by omega)) dL_law_1011 rfl ?_
  refine LW.pure (pc' := 1013) (st' := [.ref 0, .int (xs (nI (i + 1)).toNatClampNeg), .ref 2, .int r1.1]) (fun hl k => lv_aload_n C.hx C.hb dL_law_1012 rfl (hl.get (j := 0) (v := .ref 0) rfl) k) ?_
  refine LW.pure (pc' := 1014) (st' := [.int (nI i), .ref 0, .int (xs (nI (i + 1)).toNatClampNeg), .ref 2, .int r1.1]) (fun hl k => lv_iload_n C.hx C.hb dL_law_1013 rfl (hl.get (j := 3) (v := .int (nI i)) rfl) k) ?_
  refine LW.pure (pc' := 1015) (st' := [.int 2, .int (nI i), .ref 0, .int (xs (nI (i + 1)).toNatClampNeg), .ref 2, .int r1.1]) (fun hl k => lv_iconst C.hx C.hb dL_law_1014 (by decide) k) ?_
  refine LW.pure (pc' := 1016) (st' := [.int (nI (i + 2)), .ref 0, .int (xs (nI (i + 1)).toNatClampNeg), .ref 2, .int r1.1]) (fun hl k => lv_iadd C.hx C.hb dL_law_1015 (by rw [show nI i + 2 = nI (i + 2) from nI_add i 2]; exact k)) ?_
  refine LW.sld (pc' := 1017) C (vp_in_nI (by omega) (by omega)) dL_law_1016 rfl ?_
  refine LW.pure (pc' := 1018) (st' := [.ref 0, .int (xs (nI (i + 2)).toNatClampNeg), .int (xs (nI (i + 1)).toNatClampNeg), .ref 2, .int r1.1]) (fun hl k => lv_aload_n C.hx C.hb dL_law_1017 rfl (hl.get (j := 0) (v := .ref 0) rfl) k) ?_
  refine LW.pure (pc' := 1019) (st' := [.int (nI i), .ref 0, .int (xs (nI (i + 2)).toNatClampNeg), .int (xs (nI (i + 1)).toNatClampNeg), .ref 2, .int r1.1]) (fun hl k => lv_iload_n C.hx C.hb dL_law_1018 rfl (hl.get (j := 3) (v := .int (nI i)) rfl) k) ?_
  refine LW.pure (pc' := 1020) (st' := [.int 3, .int (nI i), .ref 0, .int (xs (nI (i + 2)).toNatClampNeg), .int (xs (nI (i + 1)).toNatClampNeg), .ref 2, .int r1.1]) (fun hl k => lv_iconst C.hx C.hb dL_law_1019 (by decide) k) ?_
  refine LW.pure (pc' := 1021) (st' := [.int (nI (i + 3)), .ref 0, .int (xs (nI (i + 2)).toNatClampNeg), .int (xs (nI (i + 1)).toNatClampNeg), .ref 2, .int r1.1]) (fun hl k => lv_iadd C.hx C.hb dL_law_1020 (by rw [show nI i + 3 = nI (i + 3) from nI_add i 3]; exact k)) ?_
  refine LW.sld (pc' := 1022) C (vp_in_nI (by omega) (by omega)) dL_law_1021 rfl ?_
  refine lw_callM (M' := mX12_sheet) (As := [.int (xs (nI (i + 1)).toNatClampNeg), .int (xs (nI (i + 2)).toNatClampNeg), .int (xs (nI (i + 3)).toNatClampNeg)]) (st := [.int r1.1]) (mc := 0) (ms := 0) (dd := 200) (pc' := 1025) C ln_PlateRoundLaw_137 lb_X12_sheet (by decide) (t_X12_sheet (N := N) (d := 200) hWm (by decide) hTm r2 hf2) (by simp [nR]) hTm (by simp [nR]) (Nat.le_of_ble_eq_true rfl) rfl dL_law_1022 rfl (by omega) (by omega) (fun r S' x' q v hv => by rw [q.1] at hv; cases hv; trivial) (fun r S' x' q _ => ?_)
  obtain ⟨rfl, rfl, rfl⟩ := q
  show LW p l e s m below meth c D ty σ0 b ((kc + 0) + 0) ((ks + 0) + 0) 1025 [some (.ref 0), some (.ref 1), some (.ref 2), some (.int (nI i))] [.int r2.1, .int r1.1] _ _ _ _
  refine LW.br (c1 := r1.1 = r2.1) (pc1 := 1159) (pc' := 1028) (st' := []) (fun kt kf => lv_icmp_eq C.hx C.hb dL_law_1025 (by decide) kt kf) (fun _ => ?_) (fun h => absurd e1.symm h)
  exact LW.widen (by omega) (by omega) (back _ _ _ hR')
set_option maxHeartbeats 2000000 in
theorem law_case27 (C : LC p s m meth c b L xs D ty σ0) (hL : L ≤ 2561) (hO : LAWOK N R) {cc i kc ks : Nat} {Sx Sm : SH} {xx xm : DY} (hc : cc < 512) (hR : R cc Sx xx Sm xm) (hi : i + 5 ≤ L) (hkc : kc + 4 ≤ 600000) (hks : ks + 483 ≤ 7302250)
    (back : ∀ S' x' y', R (cc + 1) S' x' Sm y' → LW p l e s m below meth c D ty σ0 b (kc + 4) (ks + 483) 1159 [some (.ref 0), some (.ref 1), some (.ref 2), some (.int (nI i))] [] S' x' Sm y') : LW p l e s m below meth c D ty σ0 b kc ks 1030 [some (.ref 0), some (.ref 1), some (.ref 2), some (.int (nI i))] [] Sx xx Sm xm := by
  obtain ⟨v, S', x', y', hgx, hgm, hR'⟩ := hO.2 cc Sx xx Sm xm 27 (xs (nI (i + 1)).toNatClampNeg) (xs (nI (i + 2)).toNatClampNeg) (xs (nI (i + 3)).toNatClampNeg) (xs (nI (i + 4)).toNatClampNeg) hc (by decide) hR
  obtain ⟨r1, hf1, he1⟩ := Option.map_eq_some_iff.mp hgx
  obtain ⟨r2, hf2, he2⟩ := Option.map_eq_some_iff.mp hgm
  cases he1
  have e1 := Value.int.inj (Option.some.inj (congrArg Prod.fst he2))
  have e2 := congrArg Prod.snd he2
  dsimp only at e1 e2
  subst e2
  obtain ⟨hWx, hTx, hWm, hTm⟩ := hO.1 cc Sx xx Sm xm hR
  refine LW.pure (pc' := 1031) (st' := [.ref 1]) (fun hl k => lv_aload_n C.hx C.hb dL_law_1030 rfl (hl.get (j := 1) (v := .ref 1) rfl) k) ?_
  refine LW.pure (pc' := 1032) (st' := [.ref 0, .ref 1]) (fun hl k => lv_aload_n C.hx C.hb dL_law_1031 rfl (hl.get (j := 0) (v := .ref 0) rfl) k) ?_
  refine LW.pure (pc' := 1033) (st' := [.int (nI i), .ref 0, .ref 1]) (fun hl k => lv_iload_n C.hx C.hb dL_law_1032 rfl (hl.get (j := 3) (v := .int (nI i)) rfl) k) ?_
  refine LW.pure (pc' := 1034) (st' := [.int 1, .int (nI i), .ref 0, .ref 1]) (fun hl k => lv_iconst C.hx C.hb dL_law_1033 (by decide) k) ?_
  refine LW.pure (pc' := 1035) (st' := [.int (nI (i + 1)), .ref 0, .ref 1]) (fun hl k => lv_iadd C.hx C.hb dL_law_1034 (by rw [show nI i + 1 = nI (i + 1) from nI_add i 1]; exact k)) ?_
  refine LW.sld (pc' := 1036) C (vp_in_nI (by omega) (by omega)) dL_law_1035 rfl ?_
  refine LW.pure (pc' := 1037) (st' := [.ref 0, .int (xs (nI (i + 1)).toNatClampNeg), .ref 1]) (fun hl k => lv_aload_n C.hx C.hb dL_law_1036 rfl (hl.get (j := 0) (v := .ref 0) rfl) k) ?_
  refine LW.pure (pc' := 1038) (st' := [.int (nI i), .ref 0, .int (xs (nI (i + 1)).toNatClampNeg), .ref 1]) (fun hl k => lv_iload_n C.hx C.hb dL_law_1037 rfl (hl.get (j := 3) (v := .int (nI i)) rfl) k) ?_
  refine LW.pure (pc' := 1039) (st' := [.int 2, .int (nI i), .ref 0, .int (xs (nI (i + 1)).toNatClampNeg), .ref 1]) (fun hl k => lv_iconst C.hx C.hb dL_law_1038 (by decide) k) ?_
  refine LW.pure (pc' := 1040) (st' := [.int (nI (i + 2)), .ref 0, .int (xs (nI (i + 1)).toNatClampNeg), .ref 1]) (fun hl k => lv_iadd C.hx C.hb dL_law_1039 (by rw [show nI i + 2 = nI (i + 2) from nI_add i 2]; exact k)) ?_
  refine LW.sld (pc' := 1041) C (vp_in_nI (by omega) (by omega)) dL_law_1040 rfl ?_
  refine LW.pure (pc' := 1042) (st' := [.ref 0, .int (xs (nI (i + 2)).toNatClampNeg), .int (xs (nI (i + 1)).toNatClampNeg), .ref 1]) (fun hl k => lv_aload_n C.hx C.hb dL_law_1041 rfl (hl.get (j := 0) (v := .ref 0) rfl) k) ?_
  refine LW.pure (pc' := 1043) (st' := [.int (nI i), .ref 0, .int (xs (nI (i + 2)).toNatClampNeg), .int (xs (nI (i + 1)).toNatClampNeg), .ref 1]) (fun hl k => lv_iload_n C.hx C.hb dL_law_1042 rfl (hl.get (j := 3) (v := .int (nI i)) rfl) k) ?_
  refine LW.pure (pc' := 1044) (st' := [.int 3, .int (nI i), .ref 0, .int (xs (nI (i + 2)).toNatClampNeg), .int (xs (nI (i + 1)).toNatClampNeg), .ref 1]) (fun hl k => lv_iconst C.hx C.hb dL_law_1043 (by decide) k) ?_
  refine LW.pure (pc' := 1045) (st' := [.int (nI (i + 3)), .ref 0, .int (xs (nI (i + 2)).toNatClampNeg), .int (xs (nI (i + 1)).toNatClampNeg), .ref 1]) (fun hl k => lv_iadd C.hx C.hb dL_law_1044 (by rw [show nI i + 3 = nI (i + 3) from nI_add i 3]; exact k)) ?_
  refine LW.sld (pc' := 1046) C (vp_in_nI (by omega) (by omega)) dL_law_1045 rfl ?_
  refine lw_callX (M' := mX11_cell) (As := [.int (xs (nI (i + 1)).toNatClampNeg), .int (xs (nI (i + 2)).toNatClampNeg), .int (xs (nI (i + 3)).toNatClampNeg)]) (st := []) (mc := 0) (ms := 0) (dd := 200) (pc' := 1049) C ln_PlateRoundLaw_138 lb_X11_cell (by decide) (t_X11_cell (N := N) (d := 200) hWx (by decide) hTx r1 hf1) (by simp [nR]) hTx (by simp [nR]) (Nat.le_of_ble_eq_true rfl) rfl dL_law_1046 rfl (by omega) (by omega) (fun r S' x' q v hv => by rw [q.1] at hv; cases hv; trivial) (fun r S' x' q _ => ?_)
  obtain ⟨rfl, rfl, rfl⟩ := q
  show LW p l e s m below meth c D ty σ0 b (kc + 0) (ks + 0) 1049 [some (.ref 0), some (.ref 1), some (.ref 2), some (.int (nI i))] [.int r1.1] _ _ _ _
  refine LW.pure (pc' := 1050) (st' := [.ref 2, .int r1.1]) (fun hl k => lv_aload_n C.hx C.hb dL_law_1049 rfl (hl.get (j := 2) (v := .ref 2) rfl) k) ?_
  refine LW.pure (pc' := 1051) (st' := [.ref 0, .ref 2, .int r1.1]) (fun hl k => lv_aload_n C.hx C.hb dL_law_1050 rfl (hl.get (j := 0) (v := .ref 0) rfl) k) ?_
  refine LW.pure (pc' := 1052) (st' := [.int (nI i), .ref 0, .ref 2, .int r1.1]) (fun hl k => lv_iload_n C.hx C.hb dL_law_1051 rfl (hl.get (j := 3) (v := .int (nI i)) rfl) k) ?_
  refine LW.pure (pc' := 1053) (st' := [.int 1, .int (nI i), .ref 0, .ref 2, .int r1.1]) (fun hl k => lv_iconst C.hx C.hb dL_law_1052 (by decide) k) ?_
  refine LW.pure (pc' := 1054) (st' := [.int (nI (i + 1)), .ref 0, .ref 2, .int r1.1]) (fun hl k => lv_iadd C.hx C.hb dL_law_1053 (by rw [show nI i + 1 = nI (i + 1) from nI_add i 1]; exact k)) ?_
  refine LW.sld (pc' := 1055) C (vp_in_nI (by omega) (by omega)) dL_law_1054 rfl ?_
  refine LW.pure (pc' := 1056) (st' := [.ref 0, .int (xs (nI (i + 1)).toNatClampNeg), .ref 2, .int r1.1]) (fun hl k => lv_aload_n C.hx C.hb dL_law_1055 rfl (hl.get (j := 0) (v := .ref 0) rfl) k) ?_
  refine LW.pure (pc' := 1057) (st' := [.int (nI i), .ref 0, .int (xs (nI (i + 1)).toNatClampNeg), .ref 2, .int r1.1]) (fun hl k => lv_iload_n C.hx C.hb dL_law_1056 rfl (hl.get (j := 3) (v := .int (nI i)) rfl) k) ?_
  refine LW.pure (pc' := 1058) (st' := [.int 2, .int (nI i), .ref 0, .int (xs (nI (i + 1)).toNatClampNeg), .ref 2, .int r1.1]) (fun hl k => lv_iconst C.hx C.hb dL_law_1057 (by decide) k) ?_
  refine LW.pure (pc' := 1059) (st' := [.int (nI (i + 2)), .ref 0, .int (xs (nI (i + 1)).toNatClampNeg), .ref 2, .int r1.1]) (fun hl k => lv_iadd C.hx C.hb dL_law_1058 (by rw [show nI i + 2 = nI (i + 2) from nI_add i 2]; exact k)) ?_
  refine LW.sld (pc' := 1060) C (vp_in_nI (by omega) (by omega)) dL_law_1059 rfl ?_
  refine LW.pure (pc' := 1061) (st' := [.ref 0, .int (xs (nI (i + 2)).toNatClampNeg), .int (xs (nI (i + 1)).toNatClampNeg), .ref 2, .int r1.1]) (fun hl k => lv_aload_n C.hx C.hb dL_law_1060 rfl (hl.get (j := 0) (v := .ref 0) rfl) k) ?_
  refine LW.pure (pc' := 1062) (st' := [.int (nI i), .ref 0, .int (xs (nI (i + 2)).toNatClampNeg), .int (xs (nI (i + 1)).toNatClampNeg), .ref 2, .int r1.1]) (fun hl k => lv_iload_n C.hx C.hb dL_law_1061 rfl (hl.get (j := 3) (v := .int (nI i)) rfl) k) ?_
  refine LW.pure (pc' := 1063) (st' := [.int 3, .int (nI i), .ref 0, .int (xs (nI (i + 2)).toNatClampNeg), .int (xs (nI (i + 1)).toNatClampNeg), .ref 2, .int r1.1]) (fun hl k => lv_iconst C.hx C.hb dL_law_1062 (by decide) k) ?_
  refine LW.pure (pc' := 1064) (st' := [.int (nI (i + 3)), .ref 0, .int (xs (nI (i + 2)).toNatClampNeg), .int (xs (nI (i + 1)).toNatClampNeg), .ref 2, .int r1.1]) (fun hl k => lv_iadd C.hx C.hb dL_law_1063 (by rw [show nI i + 3 = nI (i + 3) from nI_add i 3]; exact k)) ?_
  refine LW.sld (pc' := 1065) C (vp_in_nI (by omega) (by omega)) dL_law_1064 rfl ?_
  refine lw_callM (M' := mX12_cell) (As := [.int (xs (nI (i + 1)).toNatClampNeg), .int (xs (nI (i + 2)).toNatClampNeg), .int (xs (nI (i + 3)).toNatClampNeg)]) (st := [.int r1.1]) (mc := 0) (ms := 0) (dd := 200) (pc' := 1068) C ln_PlateRoundLaw_140 lb_X12_cell (by decide) (t_X12_cell (N := N) (d := 200) hWm (by decide) hTm r2 hf2) (by simp [nR]) hTm (by simp [nR]) (Nat.le_of_ble_eq_true rfl) rfl dL_law_1065 rfl (by omega) (by omega) (fun r S' x' q v hv => by rw [q.1] at hv; cases hv; trivial) (fun r S' x' q _ => ?_)
  obtain ⟨rfl, rfl, rfl⟩ := q
  show LW p l e s m below meth c D ty σ0 b ((kc + 0) + 0) ((ks + 0) + 0) 1068 [some (.ref 0), some (.ref 1), some (.ref 2), some (.int (nI i))] [.int r2.1, .int r1.1] _ _ _ _
  refine LW.br (c1 := r1.1 = r2.1) (pc1 := 1159) (pc' := 1071) (st' := []) (fun kt kf => lv_icmp_eq C.hx C.hb dL_law_1068 (by decide) kt kf) (fun _ => ?_) (fun h => absurd e1.symm h)
  exact LW.widen (by omega) (by omega) (back _ _ _ hR')
set_option maxHeartbeats 2000000 in
theorem law_case28 (C : LC p s m meth c b L xs D ty σ0) (hL : L ≤ 2561) (hO : LAWOK N R) {cc i kc ks : Nat} {Sx Sm : SH} {xx xm : DY} (hc : cc < 512) (hR : R cc Sx xx Sm xm) (hi : i + 5 ≤ L) (hkc : kc + 4 ≤ 600000) (hks : ks + 483 ≤ 7302250)
    (back : ∀ S' x' y', R (cc + 1) S' x' Sm y' → LW p l e s m below meth c D ty σ0 b (kc + 4) (ks + 483) 1159 [some (.ref 0), some (.ref 1), some (.ref 2), some (.int (nI i))] [] S' x' Sm y') : LW p l e s m below meth c D ty σ0 b kc ks 1073 [some (.ref 0), some (.ref 1), some (.ref 2), some (.int (nI i))] [] Sx xx Sm xm := by
  obtain ⟨v, S', x', y', hgx, hgm, hR'⟩ := hO.2 cc Sx xx Sm xm 28 (xs (nI (i + 1)).toNatClampNeg) (xs (nI (i + 2)).toNatClampNeg) (xs (nI (i + 3)).toNatClampNeg) (xs (nI (i + 4)).toNatClampNeg) hc (by decide) hR
  obtain ⟨r1, hf1, he1⟩ := Option.map_eq_some_iff.mp hgx
  obtain ⟨r2, hf2, he2⟩ := Option.map_eq_some_iff.mp hgm
  cases he1
  have e1 := Value.int.inj (Option.some.inj (congrArg Prod.fst he2))
  have e2 := congrArg Prod.snd he2
  dsimp only at e1 e2
  subst e2
  obtain ⟨hWx, hTx, hWm, hTm⟩ := hO.1 cc Sx xx Sm xm hR
  refine LW.pure (pc' := 1074) (st' := [.ref 1]) (fun hl k => lv_aload_n C.hx C.hb dL_law_1073 rfl (hl.get (j := 1) (v := .ref 1) rfl) k) ?_
  refine LW.pure (pc' := 1075) (st' := [.ref 0, .ref 1]) (fun hl k => lv_aload_n C.hx C.hb dL_law_1074 rfl (hl.get (j := 0) (v := .ref 0) rfl) k) ?_
  refine LW.pure (pc' := 1076) (st' := [.int (nI i), .ref 0, .ref 1]) (fun hl k => lv_iload_n C.hx C.hb dL_law_1075 rfl (hl.get (j := 3) (v := .int (nI i)) rfl) k) ?_
  refine LW.pure (pc' := 1077) (st' := [.int 1, .int (nI i), .ref 0, .ref 1]) (fun hl k => lv_iconst C.hx C.hb dL_law_1076 (by decide) k) ?_
  refine LW.pure (pc' := 1078) (st' := [.int (nI (i + 1)), .ref 0, .ref 1]) (fun hl k => lv_iadd C.hx C.hb dL_law_1077 (by rw [show nI i + 1 = nI (i + 1) from nI_add i 1]; exact k)) ?_
  refine LW.sld (pc' := 1079) C (vp_in_nI (by omega) (by omega)) dL_law_1078 rfl ?_
  refine LW.pure (pc' := 1080) (st' := [.ref 0, .int (xs (nI (i + 1)).toNatClampNeg), .ref 1]) (fun hl k => lv_aload_n C.hx C.hb dL_law_1079 rfl (hl.get (j := 0) (v := .ref 0) rfl) k) ?_
  refine LW.pure (pc' := 1081) (st' := [.int (nI i), .ref 0, .int (xs (nI (i + 1)).toNatClampNeg), .ref 1]) (fun hl k => lv_iload_n C.hx C.hb dL_law_1080 rfl (hl.get (j := 3) (v := .int (nI i)) rfl) k) ?_
  refine LW.pure (pc' := 1082) (st' := [.int 2, .int (nI i), .ref 0, .int (xs (nI (i + 1)).toNatClampNeg), .ref 1]) (fun hl k => lv_iconst C.hx C.hb dL_law_1081 (by decide) k) ?_
  refine LW.pure (pc' := 1083) (st' := [.int (nI (i + 2)), .ref 0, .int (xs (nI (i + 1)).toNatClampNeg), .ref 1]) (fun hl k => lv_iadd C.hx C.hb dL_law_1082 (by rw [show nI i + 2 = nI (i + 2) from nI_add i 2]; exact k)) ?_
  refine LW.sld (pc' := 1084) C (vp_in_nI (by omega) (by omega)) dL_law_1083 rfl ?_
  refine LW.pure (pc' := 1085) (st' := [.ref 0, .int (xs (nI (i + 2)).toNatClampNeg), .int (xs (nI (i + 1)).toNatClampNeg), .ref 1]) (fun hl k => lv_aload_n C.hx C.hb dL_law_1084 rfl (hl.get (j := 0) (v := .ref 0) rfl) k) ?_
  refine LW.pure (pc' := 1086) (st' := [.int (nI i), .ref 0, .int (xs (nI (i + 2)).toNatClampNeg), .int (xs (nI (i + 1)).toNatClampNeg), .ref 1]) (fun hl k => lv_iload_n C.hx C.hb dL_law_1085 rfl (hl.get (j := 3) (v := .int (nI i)) rfl) k) ?_
  refine LW.pure (pc' := 1087) (st' := [.int 3, .int (nI i), .ref 0, .int (xs (nI (i + 2)).toNatClampNeg), .int (xs (nI (i + 1)).toNatClampNeg), .ref 1]) (fun hl k => lv_iconst C.hx C.hb dL_law_1086 (by decide) k) ?_
  refine LW.pure (pc' := 1088) (st' := [.int (nI (i + 3)), .ref 0, .int (xs (nI (i + 2)).toNatClampNeg), .int (xs (nI (i + 1)).toNatClampNeg), .ref 1]) (fun hl k => lv_iadd C.hx C.hb dL_law_1087 (by rw [show nI i + 3 = nI (i + 3) from nI_add i 3]; exact k)) ?_
  refine LW.sld (pc' := 1089) C (vp_in_nI (by omega) (by omega)) dL_law_1088 rfl ?_
  refine LW.pure (pc' := 1090) (st' := [.ref 0, .int (xs (nI (i + 3)).toNatClampNeg), .int (xs (nI (i + 2)).toNatClampNeg), .int (xs (nI (i + 1)).toNatClampNeg), .ref 1]) (fun hl k => lv_aload_n C.hx C.hb dL_law_1089 rfl (hl.get (j := 0) (v := .ref 0) rfl) k) ?_
  refine LW.pure (pc' := 1091) (st' := [.int (nI i), .ref 0, .int (xs (nI (i + 3)).toNatClampNeg), .int (xs (nI (i + 2)).toNatClampNeg), .int (xs (nI (i + 1)).toNatClampNeg), .ref 1]) (fun hl k => lv_iload_n C.hx C.hb dL_law_1090 rfl (hl.get (j := 3) (v := .int (nI i)) rfl) k) ?_
  refine LW.pure (pc' := 1092) (st' := [.int 4, .int (nI i), .ref 0, .int (xs (nI (i + 3)).toNatClampNeg), .int (xs (nI (i + 2)).toNatClampNeg), .int (xs (nI (i + 1)).toNatClampNeg), .ref 1]) (fun hl k => lv_iconst C.hx C.hb dL_law_1091 (by decide) k) ?_
  refine LW.pure (pc' := 1093) (st' := [.int (nI (i + 4)), .ref 0, .int (xs (nI (i + 3)).toNatClampNeg), .int (xs (nI (i + 2)).toNatClampNeg), .int (xs (nI (i + 1)).toNatClampNeg), .ref 1]) (fun hl k => lv_iadd C.hx C.hb dL_law_1092 (by rw [show nI i + 4 = nI (i + 4) from nI_add i 4]; exact k)) ?_
  refine LW.sld (pc' := 1094) C (vp_in_nI (by omega) (by omega)) dL_law_1093 rfl ?_
  refine lw_callX (M' := mX11_lays) (As := [.int (xs (nI (i + 1)).toNatClampNeg), .int (xs (nI (i + 2)).toNatClampNeg), .int (xs (nI (i + 3)).toNatClampNeg), .int (xs (nI (i + 4)).toNatClampNeg)]) (st := []) (mc := 0) (ms := 0) (dd := 200) (pc' := 1097) C ln_PlateRoundLaw_141 lb_X11_lays (by decide) (t_X11_lays (N := N) (d := 200) hWx (by decide) hTx r1 hf1) (by simp [nR]) hTx (by simp [nR]) (Nat.le_of_ble_eq_true rfl) rfl dL_law_1094 rfl (by omega) (by omega) (fun r S' x' q v hv => by rw [q.1] at hv; cases hv; trivial) (fun r S' x' q _ => ?_)
  obtain ⟨rfl, rfl, rfl⟩ := q
  show LW p l e s m below meth c D ty σ0 b (kc + 0) (ks + 0) 1097 [some (.ref 0), some (.ref 1), some (.ref 2), some (.int (nI i))] [.int r1.1] _ _ _ _
  refine LW.pure (pc' := 1098) (st' := [.ref 2, .int r1.1]) (fun hl k => lv_aload_n C.hx C.hb dL_law_1097 rfl (hl.get (j := 2) (v := .ref 2) rfl) k) ?_
  refine LW.pure (pc' := 1099) (st' := [.ref 0, .ref 2, .int r1.1]) (fun hl k => lv_aload_n C.hx C.hb dL_law_1098 rfl (hl.get (j := 0) (v := .ref 0) rfl) k) ?_
  refine LW.pure (pc' := 1100) (st' := [.int (nI i), .ref 0, .ref 2, .int r1.1]) (fun hl k => lv_iload_n C.hx C.hb dL_law_1099 rfl (hl.get (j := 3) (v := .int (nI i)) rfl) k) ?_
  refine LW.pure (pc' := 1101) (st' := [.int 1, .int (nI i), .ref 0, .ref 2, .int r1.1]) (fun hl k => lv_iconst C.hx C.hb dL_law_1100 (by decide) k) ?_
  refine LW.pure (pc' := 1102) (st' := [.int (nI (i + 1)), .ref 0, .ref 2, .int r1.1]) (fun hl k => lv_iadd C.hx C.hb dL_law_1101 (by rw [show nI i + 1 = nI (i + 1) from nI_add i 1]; exact k)) ?_
  refine LW.sld (pc' := 1103) C (vp_in_nI (by omega) (by omega)) dL_law_1102 rfl ?_
  refine LW.pure (pc' := 1104) (st' := [.ref 0, .int (xs (nI (i + 1)).toNatClampNeg), .ref 2, .int r1.1]) (fun hl k => lv_aload_n C.hx C.hb dL_law_1103 rfl (hl.get (j := 0) (v := .ref 0) rfl) k) ?_
  refine LW.pure (pc' := 1105) (st' := [.int (nI i), .ref 0, .int (xs (nI (i + 1)).toNatClampNeg), .ref 2, .int r1.1]) (fun hl k => lv_iload_n C.hx C.hb dL_law_1104 rfl (hl.get (j := 3) (v := .int (nI i)) rfl) k) ?_
  refine LW.pure (pc' := 1106) (st' := [.int 2, .int (nI i), .ref 0, .int (xs (nI (i + 1)).toNatClampNeg), .ref 2, .int r1.1]) (fun hl k => lv_iconst C.hx C.hb dL_law_1105 (by decide) k) ?_
  refine LW.pure (pc' := 1107) (st' := [.int (nI (i + 2)), .ref 0, .int (xs (nI (i + 1)).toNatClampNeg), .ref 2, .int r1.1]) (fun hl k => lv_iadd C.hx C.hb dL_law_1106 (by rw [show nI i + 2 = nI (i + 2) from nI_add i 2]; exact k)) ?_
  refine LW.sld (pc' := 1108) C (vp_in_nI (by omega) (by omega)) dL_law_1107 rfl ?_
  refine LW.pure (pc' := 1109) (st' := [.ref 0, .int (xs (nI (i + 2)).toNatClampNeg), .int (xs (nI (i + 1)).toNatClampNeg), .ref 2, .int r1.1]) (fun hl k => lv_aload_n C.hx C.hb dL_law_1108 rfl (hl.get (j := 0) (v := .ref 0) rfl) k) ?_
  refine LW.pure (pc' := 1110) (st' := [.int (nI i), .ref 0, .int (xs (nI (i + 2)).toNatClampNeg), .int (xs (nI (i + 1)).toNatClampNeg), .ref 2, .int r1.1]) (fun hl k => lv_iload_n C.hx C.hb dL_law_1109 rfl (hl.get (j := 3) (v := .int (nI i)) rfl) k) ?_
  refine LW.pure (pc' := 1111) (st' := [.int 3, .int (nI i), .ref 0, .int (xs (nI (i + 2)).toNatClampNeg), .int (xs (nI (i + 1)).toNatClampNeg), .ref 2, .int r1.1]) (fun hl k => lv_iconst C.hx C.hb dL_law_1110 (by decide) k) ?_
  refine LW.pure (pc' := 1112) (st' := [.int (nI (i + 3)), .ref 0, .int (xs (nI (i + 2)).toNatClampNeg), .int (xs (nI (i + 1)).toNatClampNeg), .ref 2, .int r1.1]) (fun hl k => lv_iadd C.hx C.hb dL_law_1111 (by rw [show nI i + 3 = nI (i + 3) from nI_add i 3]; exact k)) ?_
  refine LW.sld (pc' := 1113) C (vp_in_nI (by omega) (by omega)) dL_law_1112 rfl ?_
  refine LW.pure (pc' := 1114) (st' := [.ref 0, .int (xs (nI (i + 3)).toNatClampNeg), .int (xs (nI (i + 2)).toNatClampNeg), .int (xs (nI (i + 1)).toNatClampNeg), .ref 2, .int r1.1]) (fun hl k => lv_aload_n C.hx C.hb dL_law_1113 rfl (hl.get (j := 0) (v := .ref 0) rfl) k) ?_
  refine LW.pure (pc' := 1115) (st' := [.int (nI i), .ref 0, .int (xs (nI (i + 3)).toNatClampNeg), .int (xs (nI (i + 2)).toNatClampNeg), .int (xs (nI (i + 1)).toNatClampNeg), .ref 2, .int r1.1]) (fun hl k => lv_iload_n C.hx C.hb dL_law_1114 rfl (hl.get (j := 3) (v := .int (nI i)) rfl) k) ?_
  refine LW.pure (pc' := 1116) (st' := [.int 4, .int (nI i), .ref 0, .int (xs (nI (i + 3)).toNatClampNeg), .int (xs (nI (i + 2)).toNatClampNeg), .int (xs (nI (i + 1)).toNatClampNeg), .ref 2, .int r1.1]) (fun hl k => lv_iconst C.hx C.hb dL_law_1115 (by decide) k) ?_
  refine LW.pure (pc' := 1117) (st' := [.int (nI (i + 4)), .ref 0, .int (xs (nI (i + 3)).toNatClampNeg), .int (xs (nI (i + 2)).toNatClampNeg), .int (xs (nI (i + 1)).toNatClampNeg), .ref 2, .int r1.1]) (fun hl k => lv_iadd C.hx C.hb dL_law_1116 (by rw [show nI i + 4 = nI (i + 4) from nI_add i 4]; exact k)) ?_
  refine LW.sld (pc' := 1118) C (vp_in_nI (by omega) (by omega)) dL_law_1117 rfl ?_
  refine lw_callM (M' := mX12_lays) (As := [.int (xs (nI (i + 1)).toNatClampNeg), .int (xs (nI (i + 2)).toNatClampNeg), .int (xs (nI (i + 3)).toNatClampNeg), .int (xs (nI (i + 4)).toNatClampNeg)]) (st := [.int r1.1]) (mc := 0) (ms := 0) (dd := 200) (pc' := 1121) C ln_PlateRoundLaw_145 lb_X12_lays (by decide) (t_X12_lays (N := N) (d := 200) hWm (by decide) hTm r2 hf2) (by simp [nR]) hTm (by simp [nR]) (Nat.le_of_ble_eq_true rfl) rfl dL_law_1118 rfl (by omega) (by omega) (fun r S' x' q v hv => by rw [q.1] at hv; cases hv; trivial) (fun r S' x' q _ => ?_)
  obtain ⟨rfl, rfl, rfl⟩ := q
  show LW p l e s m below meth c D ty σ0 b ((kc + 0) + 0) ((ks + 0) + 0) 1121 [some (.ref 0), some (.ref 1), some (.ref 2), some (.int (nI i))] [.int r2.1, .int r1.1] _ _ _ _
  refine LW.br (c1 := r1.1 = r2.1) (pc1 := 1159) (pc' := 1124) (st' := []) (fun kt kf => lv_icmp_eq C.hx C.hb dL_law_1121 (by decide) kt kf) (fun _ => ?_) (fun h => absurd e1.symm h)
  exact LW.widen (by omega) (by omega) (back _ _ _ hR')
set_option maxHeartbeats 2000000 in
theorem law_case29 (C : LC p s m meth c b L xs D ty σ0) (hL : L ≤ 2561) (hO : LAWOK N R) {cc i kc ks : Nat} {Sx Sm : SH} {xx xm : DY} (hc : cc < 512) (hR : R cc Sx xx Sm xm) (hi : i + 5 ≤ L) (hkc : kc + 4 ≤ 600000) (hks : ks + 483 ≤ 7302250)
    (back : ∀ S' x' y', R (cc + 1) S' x' Sm y' → LW p l e s m below meth c D ty σ0 b (kc + 4) (ks + 483) 1159 [some (.ref 0), some (.ref 1), some (.ref 2), some (.int (nI i))] [] S' x' Sm y') : LW p l e s m below meth c D ty σ0 b kc ks 1126 [some (.ref 0), some (.ref 1), some (.ref 2), some (.int (nI i))] [] Sx xx Sm xm := by
  obtain ⟨v, S', x', y', hgx, hgm, hR'⟩ := hO.2 cc Sx xx Sm xm 29 (xs (nI (i + 1)).toNatClampNeg) (xs (nI (i + 2)).toNatClampNeg) (xs (nI (i + 3)).toNatClampNeg) (xs (nI (i + 4)).toNatClampNeg) hc (by decide) hR
  obtain ⟨r1, hf1, he1⟩ := Option.map_eq_some_iff.mp hgx
  obtain ⟨r2, hf2, he2⟩ := Option.map_eq_some_iff.mp hgm
  cases he1
  have e1 := Value.int.inj (Option.some.inj (congrArg Prod.fst he2))
  have e2 := congrArg Prod.snd he2
  dsimp only at e1 e2
  subst e2
  obtain ⟨hWx, hTx, hWm, hTm⟩ := hO.1 cc Sx xx Sm xm hR
  refine LW.pure (pc' := 1127) (st' := [.ref 1]) (fun hl k => lv_aload_n C.hx C.hb dL_law_1126 rfl (hl.get (j := 1) (v := .ref 1) rfl) k) ?_
  refine LW.pure (pc' := 1128) (st' := [.ref 0, .ref 1]) (fun hl k => lv_aload_n C.hx C.hb dL_law_1127 rfl (hl.get (j := 0) (v := .ref 0) rfl) k) ?_
  refine LW.pure (pc' := 1129) (st' := [.int (nI i), .ref 0, .ref 1]) (fun hl k => lv_iload_n C.hx C.hb dL_law_1128 rfl (hl.get (j := 3) (v := .int (nI i)) rfl) k) ?_
  refine LW.pure (pc' := 1130) (st' := [.int 1, .int (nI i), .ref 0, .ref 1]) (fun hl k => lv_iconst C.hx C.hb dL_law_1129 (by decide) k) ?_
  refine LW.pure (pc' := 1131) (st' := [.int (nI (i + 1)), .ref 0, .ref 1]) (fun hl k => lv_iadd C.hx C.hb dL_law_1130 (by rw [show nI i + 1 = nI (i + 1) from nI_add i 1]; exact k)) ?_
  refine LW.sld (pc' := 1132) C (vp_in_nI (by omega) (by omega)) dL_law_1131 rfl ?_
  refine LW.pure (pc' := 1133) (st' := [.ref 0, .int (xs (nI (i + 1)).toNatClampNeg), .ref 1]) (fun hl k => lv_aload_n C.hx C.hb dL_law_1132 rfl (hl.get (j := 0) (v := .ref 0) rfl) k) ?_
  refine LW.pure (pc' := 1134) (st' := [.int (nI i), .ref 0, .int (xs (nI (i + 1)).toNatClampNeg), .ref 1]) (fun hl k => lv_iload_n C.hx C.hb dL_law_1133 rfl (hl.get (j := 3) (v := .int (nI i)) rfl) k) ?_
  refine LW.pure (pc' := 1135) (st' := [.int 2, .int (nI i), .ref 0, .int (xs (nI (i + 1)).toNatClampNeg), .ref 1]) (fun hl k => lv_iconst C.hx C.hb dL_law_1134 (by decide) k) ?_
  refine LW.pure (pc' := 1136) (st' := [.int (nI (i + 2)), .ref 0, .int (xs (nI (i + 1)).toNatClampNeg), .ref 1]) (fun hl k => lv_iadd C.hx C.hb dL_law_1135 (by rw [show nI i + 2 = nI (i + 2) from nI_add i 2]; exact k)) ?_
  refine LW.sld (pc' := 1137) C (vp_in_nI (by omega) (by omega)) dL_law_1136 rfl ?_
  refine lw_callX (M' := mX11_taken) (As := [.int (xs (nI (i + 1)).toNatClampNeg), .int (xs (nI (i + 2)).toNatClampNeg)]) (st := []) (mc := 0) (ms := 0) (dd := 200) (pc' := 1140) C ln_PlateRoundLaw_146 lb_X11_taken (by decide) (t_X11_taken (N := N) (d := 200) hWx (by decide) hTx r1 hf1) (by simp [nR]) hTx (by simp [nR]) (Nat.le_of_ble_eq_true rfl) rfl dL_law_1137 rfl (by omega) (by omega) (fun r S' x' q v hv => by rw [q.1] at hv; cases hv; trivial) (fun r S' x' q _ => ?_)
  obtain ⟨rfl, rfl, rfl⟩ := q
  show LW p l e s m below meth c D ty σ0 b (kc + 0) (ks + 0) 1140 [some (.ref 0), some (.ref 1), some (.ref 2), some (.int (nI i))] [.int r1] _ _ _ _
  refine LW.pure (pc' := 1141) (st' := [.ref 2, .int r1]) (fun hl k => lv_aload_n C.hx C.hb dL_law_1140 rfl (hl.get (j := 2) (v := .ref 2) rfl) k) ?_
  refine LW.pure (pc' := 1142) (st' := [.ref 0, .ref 2, .int r1]) (fun hl k => lv_aload_n C.hx C.hb dL_law_1141 rfl (hl.get (j := 0) (v := .ref 0) rfl) k) ?_
  refine LW.pure (pc' := 1143) (st' := [.int (nI i), .ref 0, .ref 2, .int r1]) (fun hl k => lv_iload_n C.hx C.hb dL_law_1142 rfl (hl.get (j := 3) (v := .int (nI i)) rfl) k) ?_
  refine LW.pure (pc' := 1144) (st' := [.int 1, .int (nI i), .ref 0, .ref 2, .int r1]) (fun hl k => lv_iconst C.hx C.hb dL_law_1143 (by decide) k) ?_
  refine LW.pure (pc' := 1145) (st' := [.int (nI (i + 1)), .ref 0, .ref 2, .int r1]) (fun hl k => lv_iadd C.hx C.hb dL_law_1144 (by rw [show nI i + 1 = nI (i + 1) from nI_add i 1]; exact k)) ?_
  refine LW.sld (pc' := 1146) C (vp_in_nI (by omega) (by omega)) dL_law_1145 rfl ?_
  refine LW.pure (pc' := 1147) (st' := [.ref 0, .int (xs (nI (i + 1)).toNatClampNeg), .ref 2, .int r1]) (fun hl k => lv_aload_n C.hx C.hb dL_law_1146 rfl (hl.get (j := 0) (v := .ref 0) rfl) k) ?_
  refine LW.pure (pc' := 1148) (st' := [.int (nI i), .ref 0, .int (xs (nI (i + 1)).toNatClampNeg), .ref 2, .int r1]) (fun hl k => lv_iload_n C.hx C.hb dL_law_1147 rfl (hl.get (j := 3) (v := .int (nI i)) rfl) k) ?_
  refine LW.pure (pc' := 1149) (st' := [.int 2, .int (nI i), .ref 0, .int (xs (nI (i + 1)).toNatClampNeg), .ref 2, .int r1]) (fun hl k => lv_iconst C.hx C.hb dL_law_1148 (by decide) k) ?_
  refine LW.pure (pc' := 1150) (st' := [.int (nI (i + 2)), .ref 0, .int (xs (nI (i + 1)).toNatClampNeg), .ref 2, .int r1]) (fun hl k => lv_iadd C.hx C.hb dL_law_1149 (by rw [show nI i + 2 = nI (i + 2) from nI_add i 2]; exact k)) ?_
  refine LW.sld (pc' := 1151) C (vp_in_nI (by omega) (by omega)) dL_law_1150 rfl ?_
  refine lw_callM (M' := mX12_taken) (As := [.int (xs (nI (i + 1)).toNatClampNeg), .int (xs (nI (i + 2)).toNatClampNeg)]) (st := [.int r1]) (mc := 0) (ms := 0) (dd := 200) (pc' := 1154) C ln_PlateRoundLaw_149 lb_X12_taken (by decide) (t_X12_taken (N := N) (d := 200) hWm (by decide) hTm r2 hf2) (by simp [nR]) hTm (by simp [nR]) (Nat.le_of_ble_eq_true rfl) rfl dL_law_1151 rfl (by omega) (by omega) (fun r S' x' q v hv => by rw [q.1] at hv; cases hv; trivial) (fun r S' x' q _ => ?_)
  obtain ⟨rfl, rfl, rfl⟩ := q
  show LW p l e s m below meth c D ty σ0 b ((kc + 0) + 0) ((ks + 0) + 0) 1154 [some (.ref 0), some (.ref 1), some (.ref 2), some (.int (nI i))] [.int r2, .int r1] _ _ _ _
  refine LW.br (c1 := r1 = r2) (pc1 := 1159) (pc' := 1157) (st' := []) (fun kt kf => lv_icmp_eq C.hx C.hb dL_law_1154 (by decide) kt kf) (fun _ => ?_) (fun h => absurd e1.symm h)
  exact LW.widen (by omega) (by omega) (back _ _ _ hR')
end LAWL
