theorem gtin1 {w : Cond} (h : w ∈ tables_1_1) : w ∈ lw_tbl := List.mem_append_right _ (List.mem_append_left _ h)
theorem gtin2 {w : Cond} (h : w ∈ tables_1_2) : w ∈ lw_tbl := List.mem_append_right _ (List.mem_append_right _ (List.mem_append_left _ h))
theorem gtin3 {w : Cond} (h : w ∈ tables_1_3) : w ∈ lw_tbl := List.mem_append_right _ (List.mem_append_right _ (List.mem_append_right _ (List.mem_append_left _ h)))
theorem gtin4 {w : Cond} (h : w ∈ tables_1_4) : w ∈ lw_tbl := List.mem_append_right _ (List.mem_append_right _ (List.mem_append_right _ (List.mem_append_right _ (List.mem_append_left _ h))))
theorem gtin5 {w : Cond} (h : w ∈ tables_1_5) : w ∈ lw_tbl := List.mem_append_right _ (List.mem_append_right _ (List.mem_append_right _ (List.mem_append_right _ (List.mem_append_right _ h))))
theorem gcw0 : gcw 0 ∈ lw_tbl := gtin1 (List.mem_of_getElem? (i := 79) rfl)
theorem gcw1 : gcw 1 ∈ lw_tbl := gtin2 (List.mem_of_getElem? (i := 123) rfl)
theorem gcw2 : gcw 2 ∈ lw_tbl := gtin2 (List.mem_of_getElem? (i := 234) rfl)
theorem gcw3 : gcw 3 ∈ lw_tbl := gtin2 (List.mem_of_getElem? (i := 105) rfl)
theorem gcw4 : gcw 4 ∈ lw_tbl := gtin2 (List.mem_of_getElem? (i := 127) rfl)
theorem gcw5 : gcw 5 ∈ lw_tbl := gtin1 (List.mem_of_getElem? (i := 96) rfl)
theorem gcw6 : gcw 6 ∈ lw_tbl := gtin3 (List.mem_of_getElem? (i := 138) rfl)
theorem gcw7 : gcw 7 ∈ lw_tbl := gtin3 (List.mem_of_getElem? (i := 179) rfl)
theorem gcw8 : gcw 8 ∈ lw_tbl := gtin3 (List.mem_of_getElem? (i := 148) rfl)
theorem gcw9 : gcw 9 ∈ lw_tbl := gtin3 (List.mem_of_getElem? (i := 152) rfl)
theorem gcw10 : gcw 10 ∈ lw_tbl := gtin3 (List.mem_of_getElem? (i := 156) rfl)
theorem gcw11 : gcw 11 ∈ lw_tbl := gtin3 (List.mem_of_getElem? (i := 164) rfl)
theorem gcw12 : gcw 12 ∈ lw_tbl := gtin3 (List.mem_of_getElem? (i := 169) rfl)
theorem gcw13 : gcw 13 ∈ lw_tbl := gtin1 (List.mem_of_getElem? (i := 63) rfl)
theorem gcw14 : gcw 14 ∈ lw_tbl := gtin2 (List.mem_of_getElem? (i := 119) rfl)
theorem gcw15 : gcw 15 ∈ lw_tbl := gtin2 (List.mem_of_getElem? (i := 61) rfl)
theorem gcw16 : gcw 16 ∈ lw_tbl := gtin2 (List.mem_of_getElem? (i := 82) rfl)
theorem gcw17 : gcw 17 ∈ lw_tbl := gtin2 (List.mem_of_getElem? (i := 175) rfl)
theorem gcw18 : gcw 18 ∈ lw_tbl := gtin2 (List.mem_of_getElem? (i := 70) rfl)
theorem gcw19 : gcw 19 ∈ lw_tbl := gtin2 (List.mem_of_getElem? (i := 183) rfl)
theorem gcw20 : gcw 20 ∈ lw_tbl := gtin2 (List.mem_of_getElem? (i := 179) rfl)
theorem gcw21 : gcw 21 ∈ lw_tbl := gtin2 (List.mem_of_getElem? (i := 91) rfl)
theorem gcw22 : gcw 22 ∈ lw_tbl := gtin3 (List.mem_of_getElem? (i := 13) rfl)
theorem gcw23 : gcw 23 ∈ lw_tbl := gtin3 (List.mem_of_getElem? (i := 17) rfl)
theorem gcw24 : gcw 24 ∈ lw_tbl := gtin3 (List.mem_of_getElem? (i := 192) rfl)
theorem gcw25 : gcw 25 ∈ lw_tbl := gtin2 (List.mem_of_getElem? (i := 13) rfl)
theorem gcw26 : gcw 26 ∈ lw_tbl := gtin2 (List.mem_of_getElem? (i := 100) rfl)
theorem gcw27 : gcw 27 ∈ lw_tbl := gtin2 (List.mem_of_getElem? (i := 131) rfl)
theorem gcw28 : gcw 28 ∈ lw_tbl := gtin2 (List.mem_of_getElem? (i := 238) rfl)
theorem gcw29 : gcw 29 ∈ lw_tbl := gtin2 (List.mem_of_getElem? (i := 47) rfl)
theorem gcw30 : gcw 30 ∈ lw_tbl := gtin2 (List.mem_of_getElem? (i := 74) rfl)
theorem gcw31 : gcw 31 ∈ lw_tbl := gtin2 (List.mem_of_getElem? (i := 212) rfl)
theorem gcw32 : gcw 32 ∈ lw_tbl := gtin3 (List.mem_of_getElem? (i := 72) rfl)
theorem gcw33 : gcw 33 ∈ lw_tbl := gtin3 (List.mem_of_getElem? (i := 102) rfl)
theorem gcw34 : gcw 34 ∈ lw_tbl := gtin2 (List.mem_of_getElem? (i := 95) rfl)
theorem gcw35 : gcw 35 ∈ lw_tbl := gtin2 (List.mem_of_getElem? (i := 163) rfl)
theorem gcw36 : gcw 36 ∈ lw_tbl := gtin2 (List.mem_of_getElem? (i := 198) rfl)
theorem gcw37 : gcw 37 ∈ lw_tbl := gtin2 (List.mem_of_getElem? (i := 224) rfl)
theorem gcw38 : gcw 38 ∈ lw_tbl := gtin2 (List.mem_of_getElem? (i := 65) rfl)
theorem gcw39 : gcw 39 ∈ lw_tbl := gtin2 (List.mem_of_getElem? (i := 86) rfl)
theorem gcw40 : gcw 40 ∈ lw_tbl := gtin2 (List.mem_of_getElem? (i := 143) rfl)
theorem gcw41 : gcw 41 ∈ lw_tbl := gtin2 (List.mem_of_getElem? (i := 139) rfl)
theorem gcw42 : gcw 42 ∈ lw_tbl := gtin3 (List.mem_of_getElem? (i := 39) rfl)
theorem gcw43 : gcw 43 ∈ lw_tbl := gtin2 (List.mem_of_getElem? (i := 135) rfl)
theorem gcw44 : gcw 44 ∈ lw_tbl := gtin2 (List.mem_of_getElem? (i := 153) rfl)
theorem gcw45 : gcw 45 ∈ lw_tbl := gtin2 (List.mem_of_getElem? (i := 158) rfl)
theorem gcw46 : gcw 46 ∈ lw_tbl := gtin3 (List.mem_of_getElem? (i := 31) rfl)
theorem gcw47 : gcw 47 ∈ lw_tbl := gtin2 (List.mem_of_getElem? (i := 167) rfl)
theorem gcw48 : gcw 48 ∈ lw_tbl := gtin2 (List.mem_of_getElem? (i := 171) rfl)
theorem gcw49 : gcw 49 ∈ lw_tbl := gtin1 (List.mem_of_getElem? (i := 220) rfl)
theorem gcw50 : gcw 50 ∈ lw_tbl := gtin2 (List.mem_of_getElem? (i := 9) rfl)
theorem gcw51 : gcw 51 ∈ lw_tbl := gtin2 (List.mem_of_getElem? (i := 30) rfl)
theorem gcw52 : gcw 52 ∈ lw_tbl := gtin2 (List.mem_of_getElem? (i := 57) rfl)
theorem gcw53 : gcw 53 ∈ lw_tbl := gtin2 (List.mem_of_getElem? (i := 78) rfl)
theorem gcw54 : gcw 54 ∈ lw_tbl := gtin2 (List.mem_of_getElem? (i := 34) rfl)
theorem gcw55 : gcw 55 ∈ lw_tbl := gtin2 (List.mem_of_getElem? (i := 42) rfl)
theorem gcw56 : gcw 56 ∈ lw_tbl := gtin2 (List.mem_of_getElem? (i := 38) rfl)
theorem gcw57 : gcw 57 ∈ lw_tbl := gtin2 (List.mem_of_getElem? (i := 18) rfl)
theorem gcw58 : gcw 58 ∈ lw_tbl := gtin2 (List.mem_of_getElem? (i := 26) rfl)
theorem gcw59 : gcw 59 ∈ lw_tbl := gtin2 (List.mem_of_getElem? (i := 53) rfl)
theorem gcw60 : gcw 60 ∈ lw_tbl := gtin1 (List.mem_of_getElem? (i := 25) rfl)
theorem gcw61 : gcw 61 ∈ lw_tbl := gtin1 (List.mem_of_getElem? (i := 156) rfl)
theorem gcw62 : gcw 62 ∈ lw_tbl := gtin1 (List.mem_of_getElem? (i := 168) rfl)
theorem gcw63 : gcw 63 ∈ lw_tbl := gtin1 (List.mem_of_getElem? (i := 187) rfl)
theorem gcw64 : gcw 64 ∈ lw_tbl := gtin1 (List.mem_of_getElem? (i := 172) rfl)
theorem gcw65 : gcw 65 ∈ lw_tbl := gtin3 (List.mem_of_getElem? (i := 89) rfl)
theorem gcw66 : gcw 66 ∈ lw_tbl := gtin1 (List.mem_of_getElem? (i := 176) rfl)
theorem gcw67 : gcw 67 ∈ lw_tbl := gtin1 (List.mem_of_getElem? (i := 191) rfl)
theorem gcw68 : gcw 68 ∈ lw_tbl := gtin1 (List.mem_of_getElem? (i := 202) rfl)
theorem gcw69 : gcw 69 ∈ lw_tbl := gtin3 (List.mem_of_getElem? (i := 187) rfl)
theorem gcw70 : gcw 70 ∈ lw_tbl := gtin1 (List.mem_of_getElem? (i := 179) rfl)
theorem gcw71 : gcw 71 ∈ lw_tbl := gtin1 (List.mem_of_getElem? (i := 47) rfl)
theorem gcw72 : gcw 72 ∈ lw_tbl := gtin1 (List.mem_of_getElem? (i := 211) rfl)
theorem gcw73 : gcw 73 ∈ lw_tbl := gtin2 (List.mem_of_getElem? (i := 22) rfl)
theorem gcw74 : gcw 74 ∈ lw_tbl := gtin1 (List.mem_of_getElem? (i := 17) rfl)
theorem gcw75 : gcw 75 ∈ lw_tbl := gtin1 (List.mem_of_getElem? (i := 143) rfl)
theorem gcw76 : gcw 76 ∈ lw_tbl := gtin1 (List.mem_of_getElem? (i := 164) rfl)
theorem gcw77 : gcw 77 ∈ lw_tbl := gtin1 (List.mem_of_getElem? (i := 183) rfl)
theorem gcw78 : gcw 78 ∈ lw_tbl := gtin1 (List.mem_of_getElem? (i := 198) rfl)
theorem gcw79 : gcw 79 ∈ lw_tbl := gtin1 (List.mem_of_getElem? (i := 206) rfl)
theorem gcw80 : gcw 80 ∈ lw_tbl := gtin1 (List.mem_of_getElem? (i := 215) rfl)
theorem gcw81 : gcw 81 ∈ lw_tbl := gtin2 (List.mem_of_getElem? (i := 110) rfl)
theorem gcw82 : gcw 82 ∈ lw_tbl := gtin2 (List.mem_of_getElem? (i := 114) rfl)
theorem gcw83 : gcw 83 ∈ lw_tbl := gtin2 (List.mem_of_getElem? (i := 191) rfl)
theorem gcw84 : gcw 84 ∈ lw_tbl := gtin2 (List.mem_of_getElem? (i := 204) rfl)
theorem gcw85 : gcw 85 ∈ lw_tbl := gtin2 (List.mem_of_getElem? (i := 216) rfl)
theorem gcw86 : gcw 86 ∈ lw_tbl := gtin2 (List.mem_of_getElem? (i := 230) rfl)
theorem gcw87 : gcw 87 ∈ lw_tbl := gtin3 (List.mem_of_getElem? (i := 2) rfl)
theorem gcw88 : gcw 88 ∈ lw_tbl := gtin3 (List.mem_of_getElem? (i := 9) rfl)
theorem gcw89 : gcw 89 ∈ lw_tbl := gtin3 (List.mem_of_getElem? (i := 21) rfl)
theorem gcw90 : gcw 90 ∈ lw_tbl := gtin3 (List.mem_of_getElem? (i := 27) rfl)
theorem gcw91 : gcw 91 ∈ lw_tbl := gtin3 (List.mem_of_getElem? (i := 35) rfl)
theorem gcw92 : gcw 92 ∈ lw_tbl := gtin3 (List.mem_of_getElem? (i := 44) rfl)
theorem gcw93 : gcw 93 ∈ lw_tbl := gtin3 (List.mem_of_getElem? (i := 48) rfl)
theorem gcw94 : gcw 94 ∈ lw_tbl := gtin3 (List.mem_of_getElem? (i := 56) rfl)
theorem gcw95 : gcw 95 ∈ lw_tbl := gtin3 (List.mem_of_getElem? (i := 77) rfl)
theorem gcw96 : gcw 96 ∈ lw_tbl := gtin3 (List.mem_of_getElem? (i := 94) rfl)
theorem gcw97 : gcw 97 ∈ lw_tbl := gtin3 (List.mem_of_getElem? (i := 98) rfl)
theorem gcw98 : gcw 98 ∈ lw_tbl := gtin3 (List.mem_of_getElem? (i := 110) rfl)
theorem gcw99 : gcw 99 ∈ lw_tbl := gtin3 (List.mem_of_getElem? (i := 120) rfl)
theorem gcw100 : gcw 100 ∈ lw_tbl := gtin3 (List.mem_of_getElem? (i := 125) rfl)
theorem gcw101 : gcw 101 ∈ lw_tbl := gtin3 (List.mem_of_getElem? (i := 130) rfl)
theorem gcw102 : gcw 102 ∈ lw_tbl := gtin3 (List.mem_of_getElem? (i := 135) rfl)
theorem gcw103 : gcw 103 ∈ lw_tbl := gtin3 (List.mem_of_getElem? (i := 144) rfl)
theorem gcw104 : gcw 104 ∈ lw_tbl := gtin3 (List.mem_of_getElem? (i := 175) rfl)
theorem gcw105 : gcw 105 ∈ lw_tbl := gtin3 (List.mem_of_getElem? (i := 183) rfl)
theorem gcw106 : gcw 106 ∈ lw_tbl := gtin3 (List.mem_of_getElem? (i := 197) rfl)
theorem gcw107 : gcw 107 ∈ lw_tbl := gtin1 (List.mem_of_getElem? (i := 146) rfl)
theorem gcw108 : gcw 108 ∈ lw_tbl := gtin2 (List.mem_of_getElem? (i := 194) rfl)
theorem gcw109 : gcw 109 ∈ lw_tbl := gtin3 (List.mem_of_getElem? (i := 59) rfl)
theorem gcw110 : gcw 110 ∈ lw_tbl := gtin2 (List.mem_of_getElem? (i := 208) rfl)
theorem gcw111 : gcw 111 ∈ lw_tbl := gtin2 (List.mem_of_getElem? (i := 220) rfl)
theorem gcw112 : gcw 112 ∈ lw_tbl := gtin1 (List.mem_of_getElem? (i := 151) rfl)
theorem gcw113 : gcw 113 ∈ lw_tbl := gtin1 (List.mem_of_getElem? (i := 160) rfl)
theorem gcw114 : gcw 114 ∈ lw_tbl := gtin3 (List.mem_of_getElem? (i := 52) rfl)
theorem gcw115 : gcw 115 ∈ lw_tbl := gtin3 (List.mem_of_getElem? (i := 68) rfl)
theorem gcw116 : gcw 116 ∈ lw_tbl := gtin3 (List.mem_of_getElem? (i := 63) rfl)
theorem gcw117 : gcw 117 ∈ lw_tbl := gtin3 (List.mem_of_getElem? (i := 81) rfl)
theorem gcw118 : gcw 118 ∈ lw_tbl := gtin3 (List.mem_of_getElem? (i := 85) rfl)
theorem gcw119 : gcw 119 ∈ lw_tbl := gtin3 (List.mem_of_getElem? (i := 106) rfl)
theorem gcw120 : gcw 120 ∈ lw_tbl := gtin3 (List.mem_of_getElem? (i := 113) rfl)
theorem gcw121 : gcw 121 ∈ lw_tbl := gtin3 (List.mem_of_getElem? (i := 116) rfl)
theorem gcw122 : gcw 122 ∈ lw_tbl := gtin3 (List.mem_of_getElem? (i := 202) rfl)
theorem gcw123 : gcw 123 ∈ lw_tbl := gtin4 (List.mem_of_getElem? (i := 50) rfl)
theorem gcw124 : gcw 124 ∈ lw_tbl := gtin5 (List.mem_of_getElem? (i := 34) rfl)
theorem gcw125 : gcw 125 ∈ lw_tbl := gtin4 (List.mem_of_getElem? (i := 164) rfl)
theorem gcw126 : gcw 126 ∈ lw_tbl := gtin4 (List.mem_of_getElem? (i := 56) rfl)
theorem gcw127 : gcw 127 ∈ lw_tbl := gtin4 (List.mem_of_getElem? (i := 61) rfl)
theorem gcw128 : gcw 128 ∈ lw_tbl := gtin4 (List.mem_of_getElem? (i := 46) rfl)
theorem gcw129 : gcw 129 ∈ lw_tbl := gtin4 (List.mem_of_getElem? (i := 43) rfl)
theorem gcw130 : gcw 130 ∈ lw_tbl := gtin4 (List.mem_of_getElem? (i := 68) rfl)
theorem gcw131 : gcw 131 ∈ lw_tbl := gtin4 (List.mem_of_getElem? (i := 65) rfl)
theorem gcw132 : gcw 132 ∈ lw_tbl := gtin4 (List.mem_of_getElem? (i := 72) rfl)
theorem gcw133 : gcw 133 ∈ lw_tbl := gtin4 (List.mem_of_getElem? (i := 76) rfl)
theorem gcw134 : gcw 134 ∈ lw_tbl := gtin4 (List.mem_of_getElem? (i := 80) rfl)
theorem gcw135 : gcw 135 ∈ lw_tbl := gtin4 (List.mem_of_getElem? (i := 94) rfl)
theorem gcw136 : gcw 136 ∈ lw_tbl := gtin4 (List.mem_of_getElem? (i := 110) rfl)
theorem gcw137 : gcw 137 ∈ lw_tbl := gtin4 (List.mem_of_getElem? (i := 106) rfl)
theorem gcw138 : gcw 138 ∈ lw_tbl := gtin4 (List.mem_of_getElem? (i := 102) rfl)
theorem gcw139 : gcw 139 ∈ lw_tbl := gtin4 (List.mem_of_getElem? (i := 114) rfl)
theorem gcw140 : gcw 140 ∈ lw_tbl := gtin4 (List.mem_of_getElem? (i := 122) rfl)
theorem gcw141 : gcw 141 ∈ lw_tbl := gtin4 (List.mem_of_getElem? (i := 118) rfl)
theorem gcw142 : gcw 142 ∈ lw_tbl := gtin4 (List.mem_of_getElem? (i := 126) rfl)
theorem gcw143 : gcw 143 ∈ lw_tbl := gtin4 (List.mem_of_getElem? (i := 90) rfl)
theorem gcw144 : gcw 144 ∈ lw_tbl := gtin4 (List.mem_of_getElem? (i := 86) rfl)
theorem gcw145 : gcw 145 ∈ lw_tbl := gtin4 (List.mem_of_getElem? (i := 131) rfl)
theorem gcw146 : gcw 146 ∈ lw_tbl := gtin4 (List.mem_of_getElem? (i := 180) rfl)
theorem gcw147 : gcw 147 ∈ lw_tbl := gtin4 (List.mem_of_getElem? (i := 198) rfl)
theorem gcw148 : gcw 148 ∈ lw_tbl := gtin4 (List.mem_of_getElem? (i := 210) rfl)
theorem gcw149 : gcw 149 ∈ lw_tbl := gtin4 (List.mem_of_getElem? (i := 161) rfl)
theorem gcw150 : gcw 150 ∈ lw_tbl := gtin4 (List.mem_of_getElem? (i := 157) rfl)
theorem gcw151 : gcw 151 ∈ lw_tbl := gtin4 (List.mem_of_getElem? (i := 153) rfl)
theorem gcw152 : gcw 152 ∈ lw_tbl := gtin4 (List.mem_of_getElem? (i := 186) rfl)
theorem gcw153 : gcw 153 ∈ lw_tbl := gtin4 (List.mem_of_getElem? (i := 169) rfl)
theorem gcw154 : gcw 154 ∈ lw_tbl := gtin4 (List.mem_of_getElem? (i := 149) rfl)
theorem gcw155 : gcw 155 ∈ lw_tbl := gtin4 (List.mem_of_getElem? (i := 173) rfl)
theorem gcw156 : gcw 156 ∈ lw_tbl := gtin4 (List.mem_of_getElem? (i := 145) rfl)
theorem gcw157 : gcw 157 ∈ lw_tbl := gtin4 (List.mem_of_getElem? (i := 141) rfl)
theorem gcw158 : gcw 158 ∈ lw_tbl := gtin4 (List.mem_of_getElem? (i := 135) rfl)
theorem gcw159 : gcw 159 ∈ lw_tbl := gtin4 (List.mem_of_getElem? (i := 190) rfl)
theorem gcw160 : gcw 160 ∈ lw_tbl := gtin4 (List.mem_of_getElem? (i := 202) rfl)
theorem gcw161 : gcw 161 ∈ lw_tbl := gtin4 (List.mem_of_getElem? (i := 177) rfl)
theorem gcw162 : gcw 162 ∈ lw_tbl := gtin4 (List.mem_of_getElem? (i := 194) rfl)
theorem gcw163 : gcw 163 ∈ lw_tbl := gtin4 (List.mem_of_getElem? (i := 206) rfl)
theorem gcw164 : gcw 164 ∈ lw_tbl := gtin4 (List.mem_of_getElem? (i := 214) rfl)
theorem gcw165 : gcw 165 ∈ lw_tbl := gtin4 (List.mem_of_getElem? (i := 218) rfl)
theorem gcw166 : gcw 166 ∈ lw_tbl := gtin4 (List.mem_of_getElem? (i := 222) rfl)
theorem gcw167 : gcw 167 ∈ lw_tbl := gtin4 (List.mem_of_getElem? (i := 226) rfl)
theorem gcw168 : gcw 168 ∈ lw_tbl := gtin4 (List.mem_of_getElem? (i := 239) rfl)
theorem gcw169 : gcw 169 ∈ lw_tbl := gtin5 (List.mem_of_getElem? (i := 7) rfl)
theorem gcw170 : gcw 170 ∈ lw_tbl := gtin4 (List.mem_of_getElem? (i := 234) rfl)
theorem gcw171 : gcw 171 ∈ lw_tbl := gtin5 (List.mem_of_getElem? (i := 14) rfl)
theorem gcw172 : gcw 172 ∈ lw_tbl := gtin5 (List.mem_of_getElem? (i := 3) rfl)
theorem gcw173 : gcw 173 ∈ lw_tbl := gtin4 (List.mem_of_getElem? (i := 231) rfl)
theorem gcw174 : gcw 174 ∈ lw_tbl := gtin5 (List.mem_of_getElem? (i := 11) rfl)
theorem gcw175 : gcw 175 ∈ lw_tbl := gtin5 (List.mem_of_getElem? (i := 18) rfl)
theorem gcw176 : gcw 176 ∈ lw_tbl := gtin5 (List.mem_of_getElem? (i := 22) rfl)
theorem gcw177 : gcw 177 ∈ lw_tbl := gtin5 (List.mem_of_getElem? (i := 31) rfl)
theorem gcw178 : gcw 178 ∈ lw_tbl := gtin5 (List.mem_of_getElem? (i := 26) rfl)
theorem gcw179 : gcw 179 ∈ lw_tbl := gtin5 (List.mem_of_getElem? (i := 42) rfl)
theorem gcw180 : gcw 180 ∈ lw_tbl := gtin5 (List.mem_of_getElem? (i := 38) rfl)
theorem gcw181 : gcw 181 ∈ lw_tbl := gtin5 (List.mem_of_getElem? (i := 46) rfl)
theorem gcw182 : gcw 182 ∈ lw_tbl := gtin5 (List.mem_of_getElem? (i := 50) rfl)
theorem gcw183 : gcw 183 ∈ lw_tbl := gtin5 (List.mem_of_getElem? (i := 55) rfl)
theorem gcw184 : gcw 184 ∈ lw_tbl := gtin5 (List.mem_of_getElem? (i := 60) rfl)
theorem gcw185 : gcw 185 ∈ lw_tbl := gtin5 (List.mem_of_getElem? (i := 64) rfl)
theorem gcw186 : gcw 186 ∈ lw_tbl := gtin5 (List.mem_of_getElem? (i := 68) rfl)
theorem gcw187 : gcw 187 ∈ lw_tbl := gtin5 (List.mem_of_getElem? (i := 75) rfl)
theorem gcw188 : gcw 188 ∈ lw_tbl := gtin5 (List.mem_of_getElem? (i := 72) rfl)
theorem gcw189 : gcw 189 ∈ lw_tbl := gtin5 (List.mem_of_getElem? (i := 87) rfl)
theorem gcw190 : gcw 190 ∈ lw_tbl := gtin5 (List.mem_of_getElem? (i := 95) rfl)
theorem gcw191 : gcw 191 ∈ lw_tbl := gtin5 (List.mem_of_getElem? (i := 103) rfl)
theorem gcw192 : gcw 192 ∈ lw_tbl := gtin5 (List.mem_of_getElem? (i := 111) rfl)
theorem gcw193 : gcw 193 ∈ lw_tbl := gtin5 (List.mem_of_getElem? (i := 107) rfl)
theorem gcw194 : gcw 194 ∈ lw_tbl := gtin5 (List.mem_of_getElem? (i := 99) rfl)
theorem gcw195 : gcw 195 ∈ lw_tbl := gtin5 (List.mem_of_getElem? (i := 91) rfl)
theorem gcw196 : gcw 196 ∈ lw_tbl := gtin5 (List.mem_of_getElem? (i := 83) rfl)
theorem gcw197 : gcw 197 ∈ lw_tbl := gtin5 (List.mem_of_getElem? (i := 79) rfl)
theorem gcw198 : gcw 198 ∈ lw_tbl := gtin5 (List.mem_of_getElem? (i := 115) rfl)
theorem gcw199 : gcw 199 ∈ lw_tbl := gtin5 (List.mem_of_getElem? (i := 119) rfl)
theorem gcw200 : gcw 200 ∈ lw_tbl := gtin5 (List.mem_of_getElem? (i := 123) rfl)
theorem gcw201 : gcw 201 ∈ lw_tbl := gtin2 (List.mem_of_getElem? (i := 146) rfl)
theorem gcw202 : gcw 202 ∈ lw_tbl := gtin2 (List.mem_of_getElem? (i := 50) rfl)
theorem gcw203 : gcw 203 ∈ lw_tbl := gtin2 (List.mem_of_getElem? (i := 186) rfl)
theorem gcw204 : gcw 204 ∈ lw_tbl := gtin1 (List.mem_of_getElem? (i := 31) rfl)
theorem gcw_ok : ∀ a, a < 205 → (gcw a ∈ lw_tbl ∧ goodWord (gcw a) = true)
  | 0, _ => ⟨gcw0, rfl⟩
  | 1, _ => ⟨gcw1, rfl⟩
  | 2, _ => ⟨gcw2, rfl⟩
  | 3, _ => ⟨gcw3, rfl⟩
  | 4, _ => ⟨gcw4, rfl⟩
  | 5, _ => ⟨gcw5, rfl⟩
  | 6, _ => ⟨gcw6, rfl⟩
  | 7, _ => ⟨gcw7, rfl⟩
  | 8, _ => ⟨gcw8, rfl⟩
  | 9, _ => ⟨gcw9, rfl⟩
  | 10, _ => ⟨gcw10, rfl⟩
  | 11, _ => ⟨gcw11, rfl⟩
  | 12, _ => ⟨gcw12, rfl⟩
  | 13, _ => ⟨gcw13, rfl⟩
  | 14, _ => ⟨gcw14, rfl⟩
  | 15, _ => ⟨gcw15, rfl⟩
  | 16, _ => ⟨gcw16, rfl⟩
  | 17, _ => ⟨gcw17, rfl⟩
  | 18, _ => ⟨gcw18, rfl⟩
  | 19, _ => ⟨gcw19, rfl⟩
  | 20, _ => ⟨gcw20, rfl⟩
  | 21, _ => ⟨gcw21, rfl⟩
  | 22, _ => ⟨gcw22, rfl⟩
  | 23, _ => ⟨gcw23, rfl⟩
  | 24, _ => ⟨gcw24, rfl⟩
  | 25, _ => ⟨gcw25, rfl⟩
  | 26, _ => ⟨gcw26, rfl⟩
  | 27, _ => ⟨gcw27, rfl⟩
  | 28, _ => ⟨gcw28, rfl⟩
  | 29, _ => ⟨gcw29, rfl⟩
  | 30, _ => ⟨gcw30, rfl⟩
  | 31, _ => ⟨gcw31, rfl⟩
  | 32, _ => ⟨gcw32, rfl⟩
  | 33, _ => ⟨gcw33, rfl⟩
  | 34, _ => ⟨gcw34, rfl⟩
  | 35, _ => ⟨gcw35, rfl⟩
  | 36, _ => ⟨gcw36, rfl⟩
  | 37, _ => ⟨gcw37, rfl⟩
  | 38, _ => ⟨gcw38, rfl⟩
  | 39, _ => ⟨gcw39, rfl⟩
  | 40, _ => ⟨gcw40, rfl⟩
  | 41, _ => ⟨gcw41, rfl⟩
  | 42, _ => ⟨gcw42, rfl⟩
  | 43, _ => ⟨gcw43, rfl⟩
  | 44, _ => ⟨gcw44, rfl⟩
  | 45, _ => ⟨gcw45, rfl⟩
  | 46, _ => ⟨gcw46, rfl⟩
  | 47, _ => ⟨gcw47, rfl⟩
  | 48, _ => ⟨gcw48, rfl⟩
  | 49, _ => ⟨gcw49, rfl⟩
  | 50, _ => ⟨gcw50, rfl⟩
  | 51, _ => ⟨gcw51, rfl⟩
  | 52, _ => ⟨gcw52, rfl⟩
  | 53, _ => ⟨gcw53, rfl⟩
  | 54, _ => ⟨gcw54, rfl⟩
  | 55, _ => ⟨gcw55, rfl⟩
  | 56, _ => ⟨gcw56, rfl⟩
  | 57, _ => ⟨gcw57, rfl⟩
  | 58, _ => ⟨gcw58, rfl⟩
  | 59, _ => ⟨gcw59, rfl⟩
  | 60, _ => ⟨gcw60, rfl⟩
  | 61, _ => ⟨gcw61, rfl⟩
  | 62, _ => ⟨gcw62, rfl⟩
  | 63, _ => ⟨gcw63, rfl⟩
  | 64, _ => ⟨gcw64, rfl⟩
  | 65, _ => ⟨gcw65, rfl⟩
  | 66, _ => ⟨gcw66, rfl⟩
  | 67, _ => ⟨gcw67, rfl⟩
  | 68, _ => ⟨gcw68, rfl⟩
  | 69, _ => ⟨gcw69, rfl⟩
  | 70, _ => ⟨gcw70, rfl⟩
  | 71, _ => ⟨gcw71, rfl⟩
  | 72, _ => ⟨gcw72, rfl⟩
  | 73, _ => ⟨gcw73, rfl⟩
  | 74, _ => ⟨gcw74, rfl⟩
  | 75, _ => ⟨gcw75, rfl⟩
  | 76, _ => ⟨gcw76, rfl⟩
  | 77, _ => ⟨gcw77, rfl⟩
  | 78, _ => ⟨gcw78, rfl⟩
  | 79, _ => ⟨gcw79, rfl⟩
  | 80, _ => ⟨gcw80, rfl⟩
  | 81, _ => ⟨gcw81, rfl⟩
  | 82, _ => ⟨gcw82, rfl⟩
  | 83, _ => ⟨gcw83, rfl⟩
  | 84, _ => ⟨gcw84, rfl⟩
  | 85, _ => ⟨gcw85, rfl⟩
  | 86, _ => ⟨gcw86, rfl⟩
  | 87, _ => ⟨gcw87, rfl⟩
  | 88, _ => ⟨gcw88, rfl⟩
  | 89, _ => ⟨gcw89, rfl⟩
  | 90, _ => ⟨gcw90, rfl⟩
  | 91, _ => ⟨gcw91, rfl⟩
  | 92, _ => ⟨gcw92, rfl⟩
  | 93, _ => ⟨gcw93, rfl⟩
  | 94, _ => ⟨gcw94, rfl⟩
  | 95, _ => ⟨gcw95, rfl⟩
  | 96, _ => ⟨gcw96, rfl⟩
  | 97, _ => ⟨gcw97, rfl⟩
  | 98, _ => ⟨gcw98, rfl⟩
  | 99, _ => ⟨gcw99, rfl⟩
  | 100, _ => ⟨gcw100, rfl⟩
  | 101, _ => ⟨gcw101, rfl⟩
  | 102, _ => ⟨gcw102, rfl⟩
  | 103, _ => ⟨gcw103, rfl⟩
  | 104, _ => ⟨gcw104, rfl⟩
  | 105, _ => ⟨gcw105, rfl⟩
  | 106, _ => ⟨gcw106, rfl⟩
  | 107, _ => ⟨gcw107, rfl⟩
  | 108, _ => ⟨gcw108, rfl⟩
  | 109, _ => ⟨gcw109, rfl⟩
  | 110, _ => ⟨gcw110, rfl⟩
  | 111, _ => ⟨gcw111, rfl⟩
  | 112, _ => ⟨gcw112, rfl⟩
  | 113, _ => ⟨gcw113, rfl⟩
  | 114, _ => ⟨gcw114, rfl⟩
  | 115, _ => ⟨gcw115, rfl⟩
  | 116, _ => ⟨gcw116, rfl⟩
  | 117, _ => ⟨gcw117, rfl⟩
  | 118, _ => ⟨gcw118, rfl⟩
  | 119, _ => ⟨gcw119, rfl⟩
  | 120, _ => ⟨gcw120, rfl⟩
  | 121, _ => ⟨gcw121, rfl⟩
  | 122, _ => ⟨gcw122, rfl⟩
  | 123, _ => ⟨gcw123, rfl⟩
  | 124, _ => ⟨gcw124, rfl⟩
  | 125, _ => ⟨gcw125, rfl⟩
  | 126, _ => ⟨gcw126, rfl⟩
  | 127, _ => ⟨gcw127, rfl⟩
  | 128, _ => ⟨gcw128, rfl⟩
  | 129, _ => ⟨gcw129, rfl⟩
  | 130, _ => ⟨gcw130, rfl⟩
  | 131, _ => ⟨gcw131, rfl⟩
  | 132, _ => ⟨gcw132, rfl⟩
  | 133, _ => ⟨gcw133, rfl⟩
  | 134, _ => ⟨gcw134, rfl⟩
  | 135, _ => ⟨gcw135, rfl⟩
  | 136, _ => ⟨gcw136, rfl⟩
  | 137, _ => ⟨gcw137, rfl⟩
  | 138, _ => ⟨gcw138, rfl⟩
  | 139, _ => ⟨gcw139, rfl⟩
  | 140, _ => ⟨gcw140, rfl⟩
  | 141, _ => ⟨gcw141, rfl⟩
  | 142, _ => ⟨gcw142, rfl⟩
  | 143, _ => ⟨gcw143, rfl⟩
  | 144, _ => ⟨gcw144, rfl⟩
  | 145, _ => ⟨gcw145, rfl⟩
  | 146, _ => ⟨gcw146, rfl⟩
  | 147, _ => ⟨gcw147, rfl⟩
  | 148, _ => ⟨gcw148, rfl⟩
  | 149, _ => ⟨gcw149, rfl⟩
  | 150, _ => ⟨gcw150, rfl⟩
  | 151, _ => ⟨gcw151, rfl⟩
  | 152, _ => ⟨gcw152, rfl⟩
  | 153, _ => ⟨gcw153, rfl⟩
  | 154, _ => ⟨gcw154, rfl⟩
  | 155, _ => ⟨gcw155, rfl⟩
  | 156, _ => ⟨gcw156, rfl⟩
  | 157, _ => ⟨gcw157, rfl⟩
  | 158, _ => ⟨gcw158, rfl⟩
  | 159, _ => ⟨gcw159, rfl⟩
  | 160, _ => ⟨gcw160, rfl⟩
  | 161, _ => ⟨gcw161, rfl⟩
  | 162, _ => ⟨gcw162, rfl⟩
  | 163, _ => ⟨gcw163, rfl⟩
  | 164, _ => ⟨gcw164, rfl⟩
  | 165, _ => ⟨gcw165, rfl⟩
  | 166, _ => ⟨gcw166, rfl⟩
  | 167, _ => ⟨gcw167, rfl⟩
  | 168, _ => ⟨gcw168, rfl⟩
  | 169, _ => ⟨gcw169, rfl⟩
  | 170, _ => ⟨gcw170, rfl⟩
  | 171, _ => ⟨gcw171, rfl⟩
  | 172, _ => ⟨gcw172, rfl⟩
  | 173, _ => ⟨gcw173, rfl⟩
  | 174, _ => ⟨gcw174, rfl⟩
  | 175, _ => ⟨gcw175, rfl⟩
  | 176, _ => ⟨gcw176, rfl⟩
  | 177, _ => ⟨gcw177, rfl⟩
  | 178, _ => ⟨gcw178, rfl⟩
  | 179, _ => ⟨gcw179, rfl⟩
  | 180, _ => ⟨gcw180, rfl⟩
  | 181, _ => ⟨gcw181, rfl⟩
  | 182, _ => ⟨gcw182, rfl⟩
  | 183, _ => ⟨gcw183, rfl⟩
  | 184, _ => ⟨gcw184, rfl⟩
  | 185, _ => ⟨gcw185, rfl⟩
  | 186, _ => ⟨gcw186, rfl⟩
  | 187, _ => ⟨gcw187, rfl⟩
  | 188, _ => ⟨gcw188, rfl⟩
  | 189, _ => ⟨gcw189, rfl⟩
  | 190, _ => ⟨gcw190, rfl⟩
  | 191, _ => ⟨gcw191, rfl⟩
  | 192, _ => ⟨gcw192, rfl⟩
  | 193, _ => ⟨gcw193, rfl⟩
  | 194, _ => ⟨gcw194, rfl⟩
  | 195, _ => ⟨gcw195, rfl⟩
  | 196, _ => ⟨gcw196, rfl⟩
  | 197, _ => ⟨gcw197, rfl⟩
  | 198, _ => ⟨gcw198, rfl⟩
  | 199, _ => ⟨gcw199, rfl⟩
  | 200, _ => ⟨gcw200, rfl⟩
  | 201, _ => ⟨gcw201, rfl⟩
  | 202, _ => ⟨gcw202, rfl⟩
  | 203, _ => ⟨gcw203, rfl⟩
  | 204, _ => ⟨gcw204, rfl⟩
  | n + 205, h => absurd h (by omega)
set_option maxRecDepth 100000 in
theorem gyn_ok : ∀ a, a < 205 → (gy a).cls = gCn (gow a) ∧ plainFor (gy a) = true ∧ gml a ≤ 20 ∧ ((gy a).cls ≠ "java/lang/invoke/MethodHandle" ∧ (gy a).cls ≠ "java/lang/invoke/VarHandle") := by decide +kernel
set_option maxRecDepth 100000 in
theorem gini_ok : ∀ c, c < 13 → (Cond.initialized (gCn c) ∈ lw_tbl ∧ goodWord (Cond.initialized (gCn c)) = true) := by decide +kernel
theorem gow_lt : ∀ a, a < 205 → gow a < 13 := by decide +kernel
abbrev gQ5 : Type := Nat × Nat × Nat × Nat × Int
def gw1 (w : Cond) : Bool := decide (w ∈ lw_tbl) && goodWord w
theorem gw1_in {w : Cond} (h : gw1 w = true) : w ∈ gtb := by
  simp only [gw1, Bool.and_eq_true, decide_eq_true_eq] at h
  exact gtb_in h
def gnp (q : gQ5) : Bool := decide ((parseMethodDescriptor (gy q.2.2.1).desc).map (fun d => d.parameters.length) = some q.2.2.2.1) && decide (q.2.2.1 < 205)
def gM0 (q : gQ5) : Bool := gnp q && decide (gow q.2.2.1 < 8) && gw1 (gmw q) && gw1 (Cond.instanceMethod (gy q.2.2.1)) && gw1 (Cond.selects (gCn (gow q.2.2.1)) (gy q.2.2.1) (gy q.2.2.1))
def gM1 (q : gQ5) : Bool := gnp q && gw1 (gmw q) && gw1 (Cond.static (gy q.2.2.1))
def gM2 (q : gQ5) : Bool := gnp q && decide ((gy q.2.2.1).name = "<init>") && decide (grt q.2.2.1 = none) && gw1 (Cond.instanceMethod (gy q.2.2.1))
def gM4 (q : gQ5) : Bool := decide (q.2.2.2.1 = 0) && gw1 (Cond.methodLink (gCn q.1) q.2.1 objectInit)
def gM5 (q : gQ5) : Bool := gw1 (Cond.methodLink (gCn q.1) q.2.1 arraycopyName)
def gMk (q : gQ5) : Bool := if q.2.2.2.2 = 0 then gM0 q else if q.2.2.2.2 = 1 then gM1 q else if q.2.2.2.2 = 2 then gM2 q && gw1 (gmw q) else if q.2.2.2.2 = 3 then gM2 q && decide (gmwN q ∈ lw_tbl) else if q.2.2.2.2 = 4 then gM4 q else if q.2.2.2.2 = 5 then gM5 q else false

set_option maxRecDepth 100000 in
theorem gkall : ∀ mi, (gTs.getD mi []).all (gokb mi) = true
  | 0 => gk0
  | 1 => gk1
  | 2 => gk2
  | 3 => gk3
  | 4 => gk4
  | 5 => gk5
  | 6 => gk6
  | 7 => gk7
  | 8 => gk8
  | 9 => gk9
  | 10 => gk10
  | 11 => gk11
  | 12 => gk12
  | 13 => gk13
  | 14 => gk14
  | 15 => gk15
  | 16 => gk16
  | 17 => gk17
  | 18 => gk18
  | 19 => gk19
  | 20 => gk20
  | 21 => gk21
  | 22 => gk22
  | 23 => gk23
  | 24 => gk24
  | 25 => gk25
  | 26 => gk26
  | 27 => gk27
  | 28 => gk28
  | 29 => gk29
  | 30 => gk30
  | 31 => gk31
  | 32 => gk32
  | 33 => gk33
  | 34 => gk34
  | 35 => gk35
  | 36 => gk36
  | 37 => gk37
  | 38 => gk38
  | 39 => gk39
  | 40 => gk40
  | 41 => gk41
  | 42 => gk42
  | 43 => gk43
  | 44 => gk44
  | 45 => gk45
  | 46 => gk46
  | 47 => gk47
  | 48 => gk48
  | 49 => gk49
  | 50 => gk50
  | 51 => gk51
  | 52 => gk52
  | 53 => gk53
  | 54 => gk54
  | 55 => gk55
  | 56 => gk56
  | 57 => gk57
  | 58 => gk58
  | 59 => gk59
  | 60 => gk60
  | 61 => gk61
  | 62 => gk62
  | 63 => gk63
  | 64 => gk64
  | 65 => gk65
  | 66 => gk66
  | 67 => gk67
  | 68 => gk68
  | 69 => gk69
  | 70 => gk70
  | 71 => gk71
  | 72 => gk72
  | 73 => gk73
  | 74 => gk74
  | 75 => gk75
  | 76 => gk76
  | 77 => gk77
  | 78 => gk78
  | 79 => gk79
  | 80 => gk80
  | 81 => gk81
  | 82 => gk82
  | 83 => gk83
  | 84 => gk84
  | 85 => gk85
  | 86 => gk86
  | 87 => gk87
  | 88 => gk88
  | 89 => gk89
  | 90 => gk90
  | 91 => gk91
  | 92 => gk92
  | 93 => gk93
  | 94 => gk94
  | 95 => gk95
  | 96 => gk96
  | 97 => gk97
  | 98 => gk98
  | 99 => gk99
  | 100 => gk100
  | 101 => gk101
  | 102 => gk102
  | 103 => gk103
  | 104 => gk104
  | 105 => gk105
  | 106 => gk106
  | 107 => gk107
  | 108 => gk108
  | 109 => gk109
  | 110 => gk110
  | 111 => gk111
  | 112 => gk112
  | 113 => gk113
  | 114 => gk114
  | 115 => gk115
  | 116 => gk116
  | 117 => gk117
  | 118 => gk118
  | 119 => gk119
  | 120 => gk120
  | 121 => gk121
  | 122 => gk122
  | 123 => gk123
  | 124 => gk124
  | 125 => gk125
  | 126 => gk126
  | 127 => gk127
  | 128 => gk128
  | 129 => gk129
  | 130 => gk130
  | 131 => gk131
  | 132 => gk132
  | 133 => gk133
  | 134 => gk134
  | 135 => gk135
  | 136 => gk136
  | 137 => gk137
  | 138 => gk138
  | 139 => gk139
  | 140 => gk140
  | 141 => gk141
  | 142 => gk142
  | 143 => gk143
  | 144 => gk144
  | 145 => gk145
  | 146 => gk146
  | 147 => gk147
  | 148 => gk148
  | 149 => gk149
  | 150 => gk150
  | 151 => gk151
  | 152 => gk152
  | 153 => gk153
  | 154 => gk154
  | 155 => gk155
  | 156 => gk156
  | 157 => gk157
  | 158 => gk158
  | 159 => gk159
  | 160 => gk160
  | 161 => gk161
  | 162 => gk162
  | 163 => gk163
  | 164 => gk164
  | 165 => gk165
  | 166 => gk166
  | 167 => gk167
  | 168 => gk168
  | 169 => gk169
  | 170 => gk170
  | 171 => gk171
  | 172 => gk172
  | 173 => gk173
  | 174 => gk174
  | 175 => gk175
  | 176 => gk176
  | 177 => gk177
  | 178 => gk178
  | 179 => gk179
  | 180 => gk180
  | 181 => gk181
  | 182 => gk182
  | 183 => gk183
  | 184 => gk184
  | 185 => gk185
  | 186 => gk186
  | 187 => gk187
  | 188 => gk188
  | 189 => gk189
  | 190 => gk190
  | 191 => gk191
  | 192 => gk192
  | 193 => gk193
  | 194 => gk194
  | 195 => gk195
  | 196 => gk196
  | 197 => gk197
  | 198 => gk198
  | 199 => gk199
  | 200 => gk200
  | 201 => gk201
  | 202 => gk202
  | 203 => gk203
  | 204 => gk204
  | 205 => gk205
  | n + 206 => by
    have h : gTs.getD (n + 206) [] = [] := by
      rw [List.getD_eq_getElem?_getD, List.getElem?_eq_none (show gTs.length ≤ n + 206 from Nat.le_add_left 206 n)]; rfl
    rw [h]; rfl
theorem gopok {mi pc : Nat} {e : gE} (h : gop mi pc = some e) : gokb mi (pc, e) = true := List.all_eq_true.mp (gkall mi) _ (glk_mem h)
