set_option maxRecDepth 100000 in
theorem gk0 : gT0.all (gokb 0) = true := by decide +kernel
set_option maxRecDepth 100000 in
theorem gk1 : gT1.all (gokb 1) = true := by decide +kernel
set_option maxRecDepth 100000 in
theorem gk2 : gT2.all (gokb 2) = true := by decide +kernel
set_option maxRecDepth 100000 in
theorem gk3 : gT3.all (gokb 3) = true := by decide +kernel
set_option maxRecDepth 100000 in
theorem gk4 : gT4.all (gokb 4) = true := by decide +kernel
set_option maxRecDepth 100000 in
theorem gk5 : gT5.all (gokb 5) = true := by decide +kernel
set_option maxRecDepth 100000 in
theorem gk6 : gT6.all (gokb 6) = true := by decide +kernel
set_option maxRecDepth 100000 in
theorem gk7 : gT7.all (gokb 7) = true := by decide +kernel
set_option maxRecDepth 100000 in
theorem gk8 : gT8.all (gokb 8) = true := by decide +kernel
set_option maxRecDepth 100000 in
theorem gk9 : gT9.all (gokb 9) = true := by decide +kernel
set_option maxRecDepth 100000 in
theorem gk10 : gT10.all (gokb 10) = true := by decide +kernel
set_option maxRecDepth 100000 in
theorem gk11 : gT11.all (gokb 11) = true := by decide +kernel
set_option maxRecDepth 100000 in
theorem gk12 : gT12.all (gokb 12) = true := by decide +kernel
set_option maxRecDepth 100000 in
theorem gk13 : gT13.all (gokb 13) = true := by decide +kernel
set_option maxRecDepth 100000 in
theorem gk14 : gT14.all (gokb 14) = true := by decide +kernel
set_option maxRecDepth 100000 in
theorem gk15 : gT15.all (gokb 15) = true := by decide +kernel
set_option maxRecDepth 100000 in
theorem gk16 : gT16.all (gokb 16) = true := by decide +kernel
set_option maxRecDepth 100000 in
theorem gk17 : gT17.all (gokb 17) = true := by decide +kernel
set_option maxRecDepth 100000 in
theorem gk18 : gT18.all (gokb 18) = true := by decide +kernel
set_option maxRecDepth 100000 in
theorem gk19 : gT19.all (gokb 19) = true := by decide +kernel
set_option maxRecDepth 100000 in
theorem gk20 : gT20.all (gokb 20) = true := by decide +kernel
set_option maxRecDepth 100000 in
theorem gk21 : gT21.all (gokb 21) = true := by decide +kernel
set_option maxRecDepth 100000 in
theorem gk22 : gT22.all (gokb 22) = true := by decide +kernel
set_option maxRecDepth 100000 in
theorem gk23 : gT23.all (gokb 23) = true := by decide +kernel
set_option maxRecDepth 100000 in
theorem gk24 : gT24.all (gokb 24) = true := by decide +kernel
set_option maxRecDepth 100000 in
theorem gk25 : gT25.all (gokb 25) = true := by decide +kernel
set_option maxRecDepth 100000 in
theorem gk26 : gT26.all (gokb 26) = true := by decide +kernel
set_option maxRecDepth 100000 in
theorem gk27 : gT27.all (gokb 27) = true := by decide +kernel
set_option maxRecDepth 100000 in
theorem gk28 : gT28.all (gokb 28) = true := by decide +kernel
set_option maxRecDepth 100000 in
theorem gk29 : gT29.all (gokb 29) = true := by decide +kernel
set_option maxRecDepth 100000 in
theorem gk30 : gT30.all (gokb 30) = true := by decide +kernel
set_option maxRecDepth 100000 in
theorem gk31 : gT31.all (gokb 31) = true := by decide +kernel
set_option maxRecDepth 100000 in
theorem gk32 : gT32.all (gokb 32) = true := by decide +kernel
set_option maxRecDepth 100000 in
theorem gk33 : gT33.all (gokb 33) = true := by decide +kernel
set_option maxRecDepth 100000 in
theorem gk34 : gT34.all (gokb 34) = true := by decide +kernel
set_option maxRecDepth 100000 in
theorem gk35 : gT35.all (gokb 35) = true := by decide +kernel
set_option maxRecDepth 100000 in
theorem gk36 : gT36.all (gokb 36) = true := by decide +kernel
set_option maxRecDepth 100000 in
theorem gk37 : gT37.all (gokb 37) = true := by decide +kernel
set_option maxRecDepth 100000 in
theorem gk38 : gT38.all (gokb 38) = true := by decide +kernel
set_option maxRecDepth 100000 in
theorem gk39 : gT39.all (gokb 39) = true := by decide +kernel
set_option maxRecDepth 100000 in
theorem gk40 : gT40.all (gokb 40) = true := by decide +kernel
set_option maxRecDepth 100000 in
theorem gk41 : gT41.all (gokb 41) = true := by decide +kernel
set_option maxRecDepth 100000 in
theorem gk42 : gT42.all (gokb 42) = true := by decide +kernel
set_option maxRecDepth 100000 in
theorem gk43 : gT43.all (gokb 43) = true := by decide +kernel
set_option maxRecDepth 100000 in
theorem gk44 : gT44.all (gokb 44) = true := by decide +kernel
set_option maxRecDepth 100000 in
theorem gk45 : gT45.all (gokb 45) = true := by decide +kernel
set_option maxRecDepth 100000 in
theorem gk46 : gT46.all (gokb 46) = true := by decide +kernel
set_option maxRecDepth 100000 in
theorem gk47 : gT47.all (gokb 47) = true := by decide +kernel
set_option maxRecDepth 100000 in
theorem gk48 : gT48.all (gokb 48) = true := by decide +kernel
set_option maxRecDepth 100000 in
theorem gk49 : gT49.all (gokb 49) = true := by decide +kernel
set_option maxRecDepth 100000 in
theorem gk50 : gT50.all (gokb 50) = true := by decide +kernel
set_option maxRecDepth 100000 in
theorem gk51 : gT51.all (gokb 51) = true := by decide +kernel
set_option maxRecDepth 100000 in
theorem gk52 : gT52.all (gokb 52) = true := by decide +kernel
set_option maxRecDepth 100000 in
theorem gk53 : gT53.all (gokb 53) = true := by decide +kernel
set_option maxRecDepth 100000 in
theorem gk54 : gT54.all (gokb 54) = true := by decide +kernel
set_option maxRecDepth 100000 in
theorem gk55 : gT55.all (gokb 55) = true := by decide +kernel
set_option maxRecDepth 100000 in
theorem gk56 : gT56.all (gokb 56) = true := by decide +kernel
set_option maxRecDepth 100000 in
theorem gk57 : gT57.all (gokb 57) = true := by decide +kernel
set_option maxRecDepth 100000 in
theorem gk58 : gT58.all (gokb 58) = true := by decide +kernel
set_option maxRecDepth 100000 in
theorem gk59 : gT59.all (gokb 59) = true := by decide +kernel
set_option maxRecDepth 100000 in
theorem gk60 : gT60.all (gokb 60) = true := by decide +kernel
set_option maxRecDepth 100000 in
theorem gk61 : gT61.all (gokb 61) = true := by decide +kernel
set_option maxRecDepth 100000 in
theorem gk62 : gT62.all (gokb 62) = true := by decide +kernel
set_option maxRecDepth 100000 in
theorem gk63 : gT63.all (gokb 63) = true := by decide +kernel
set_option maxRecDepth 100000 in
theorem gk64 : gT64.all (gokb 64) = true := by decide +kernel
set_option maxRecDepth 100000 in
theorem gk65 : gT65.all (gokb 65) = true := by decide +kernel
set_option maxRecDepth 100000 in
theorem gk66 : gT66.all (gokb 66) = true := by decide +kernel
set_option maxRecDepth 100000 in
theorem gk67 : gT67.all (gokb 67) = true := by decide +kernel
set_option maxRecDepth 100000 in
theorem gk68 : gT68.all (gokb 68) = true := by decide +kernel
set_option maxRecDepth 100000 in
theorem gk69 : gT69.all (gokb 69) = true := by decide +kernel
set_option maxRecDepth 100000 in
theorem gk70 : gT70.all (gokb 70) = true := by decide +kernel
set_option maxRecDepth 100000 in
theorem gk71 : gT71.all (gokb 71) = true := by decide +kernel
set_option maxRecDepth 100000 in
theorem gk72 : gT72.all (gokb 72) = true := by decide +kernel
set_option maxRecDepth 100000 in
theorem gk73 : gT73.all (gokb 73) = true := by decide +kernel
set_option maxRecDepth 100000 in
theorem gk74 : gT74.all (gokb 74) = true := by decide +kernel
set_option maxRecDepth 100000 in
theorem gk75 : gT75.all (gokb 75) = true := by decide +kernel
set_option maxRecDepth 100000 in
theorem gk76 : gT76.all (gokb 76) = true := by decide +kernel
set_option maxRecDepth 100000 in
theorem gk77 : gT77.all (gokb 77) = true := by decide +kernel
set_option maxRecDepth 100000 in
theorem gk78 : gT78.all (gokb 78) = true := by decide +kernel
set_option maxRecDepth 100000 in
theorem gk79 : gT79.all (gokb 79) = true := by decide +kernel
set_option maxRecDepth 100000 in
theorem gk80 : gT80.all (gokb 80) = true := by decide +kernel
set_option maxRecDepth 100000 in
theorem gk81 : gT81.all (gokb 81) = true := by decide +kernel
set_option maxRecDepth 100000 in
theorem gk82 : gT82.all (gokb 82) = true := by decide +kernel
set_option maxRecDepth 100000 in
theorem gk83 : gT83.all (gokb 83) = true := by decide +kernel
set_option maxRecDepth 100000 in
theorem gk84 : gT84.all (gokb 84) = true := by decide +kernel
set_option maxRecDepth 100000 in
theorem gk85 : gT85.all (gokb 85) = true := by decide +kernel
set_option maxRecDepth 100000 in
theorem gk86 : gT86.all (gokb 86) = true := by decide +kernel
set_option maxRecDepth 100000 in
theorem gk87 : gT87.all (gokb 87) = true := by decide +kernel
set_option maxRecDepth 100000 in
theorem gk88 : gT88.all (gokb 88) = true := by decide +kernel
set_option maxRecDepth 100000 in
theorem gk89 : gT89.all (gokb 89) = true := by decide +kernel
set_option maxRecDepth 100000 in
theorem gk90 : gT90.all (gokb 90) = true := by decide +kernel
set_option maxRecDepth 100000 in
theorem gk91 : gT91.all (gokb 91) = true := by decide +kernel
set_option maxRecDepth 100000 in
theorem gk92 : gT92.all (gokb 92) = true := by decide +kernel
set_option maxRecDepth 100000 in
theorem gk93 : gT93.all (gokb 93) = true := by decide +kernel
set_option maxRecDepth 100000 in
theorem gk94 : gT94.all (gokb 94) = true := by decide +kernel
set_option maxRecDepth 100000 in
theorem gk95 : gT95.all (gokb 95) = true := by decide +kernel
set_option maxRecDepth 100000 in
theorem gk96 : gT96.all (gokb 96) = true := by decide +kernel
set_option maxRecDepth 100000 in
theorem gk97 : gT97.all (gokb 97) = true := by decide +kernel
set_option maxRecDepth 100000 in
theorem gk98 : gT98.all (gokb 98) = true := by decide +kernel
set_option maxRecDepth 100000 in
theorem gk99 : gT99.all (gokb 99) = true := by decide +kernel
set_option maxRecDepth 100000 in
theorem gk100 : gT100.all (gokb 100) = true := by decide +kernel
set_option maxRecDepth 100000 in
theorem gk101 : gT101.all (gokb 101) = true := by decide +kernel
set_option maxRecDepth 100000 in
theorem gk102 : gT102.all (gokb 102) = true := by decide +kernel
set_option maxRecDepth 100000 in
theorem gk103 : gT103.all (gokb 103) = true := by decide +kernel
set_option maxRecDepth 100000 in
theorem gk104 : gT104.all (gokb 104) = true := by decide +kernel
set_option maxRecDepth 100000 in
theorem gk105 : gT105.all (gokb 105) = true := by decide +kernel
set_option maxRecDepth 100000 in
theorem gk106 : gT106.all (gokb 106) = true := by decide +kernel
set_option maxRecDepth 100000 in
theorem gk107 : gT107.all (gokb 107) = true := by decide +kernel
set_option maxRecDepth 100000 in
theorem gk108 : gT108.all (gokb 108) = true := by decide +kernel
set_option maxRecDepth 100000 in
theorem gk109 : gT109.all (gokb 109) = true := by decide +kernel
set_option maxRecDepth 100000 in
theorem gk110 : gT110.all (gokb 110) = true := by decide +kernel
set_option maxRecDepth 100000 in
theorem gk111 : gT111.all (gokb 111) = true := by decide +kernel
set_option maxRecDepth 100000 in
theorem gk112 : gT112.all (gokb 112) = true := by decide +kernel
set_option maxRecDepth 100000 in
theorem gk113 : gT113.all (gokb 113) = true := by decide +kernel
set_option maxRecDepth 100000 in
theorem gk114 : gT114.all (gokb 114) = true := by decide +kernel
set_option maxRecDepth 100000 in
theorem gk115 : gT115.all (gokb 115) = true := by decide +kernel
set_option maxRecDepth 100000 in
theorem gk116 : gT116.all (gokb 116) = true := by decide +kernel
set_option maxRecDepth 100000 in
theorem gk117 : gT117.all (gokb 117) = true := by decide +kernel
set_option maxRecDepth 100000 in
theorem gk118 : gT118.all (gokb 118) = true := by decide +kernel
set_option maxRecDepth 100000 in
theorem gk119 : gT119.all (gokb 119) = true := by decide +kernel
set_option maxRecDepth 100000 in
theorem gk120 : gT120.all (gokb 120) = true := by decide +kernel
set_option maxRecDepth 100000 in
theorem gk121 : gT121.all (gokb 121) = true := by decide +kernel
set_option maxRecDepth 100000 in
theorem gk122 : gT122.all (gokb 122) = true := by decide +kernel
set_option maxRecDepth 100000 in
theorem gk123 : gT123.all (gokb 123) = true := by decide +kernel
set_option maxRecDepth 100000 in
theorem gk124 : gT124.all (gokb 124) = true := by decide +kernel
set_option maxRecDepth 100000 in
theorem gk125 : gT125.all (gokb 125) = true := by decide +kernel
set_option maxRecDepth 100000 in
theorem gk126 : gT126.all (gokb 126) = true := by decide +kernel
set_option maxRecDepth 100000 in
theorem gk127 : gT127.all (gokb 127) = true := by decide +kernel
set_option maxRecDepth 100000 in
theorem gk128 : gT128.all (gokb 128) = true := by decide +kernel
set_option maxRecDepth 100000 in
theorem gk129 : gT129.all (gokb 129) = true := by decide +kernel
set_option maxRecDepth 100000 in
theorem gk130 : gT130.all (gokb 130) = true := by decide +kernel
set_option maxRecDepth 100000 in
theorem gk131 : gT131.all (gokb 131) = true := by decide +kernel
set_option maxRecDepth 100000 in
theorem gk132 : gT132.all (gokb 132) = true := by decide +kernel
set_option maxRecDepth 100000 in
theorem gk133 : gT133.all (gokb 133) = true := by decide +kernel
set_option maxRecDepth 100000 in
theorem gk134 : gT134.all (gokb 134) = true := by decide +kernel
set_option maxRecDepth 100000 in
theorem gk135 : gT135.all (gokb 135) = true := by decide +kernel
set_option maxRecDepth 100000 in
theorem gk136 : gT136.all (gokb 136) = true := by decide +kernel
set_option maxRecDepth 100000 in
theorem gk137 : gT137.all (gokb 137) = true := by decide +kernel
set_option maxRecDepth 100000 in
theorem gk138 : gT138.all (gokb 138) = true := by decide +kernel
set_option maxRecDepth 100000 in
theorem gk139 : gT139.all (gokb 139) = true := by decide +kernel
set_option maxRecDepth 100000 in
theorem gk140 : gT140.all (gokb 140) = true := by decide +kernel
set_option maxRecDepth 100000 in
theorem gk141 : gT141.all (gokb 141) = true := by decide +kernel
set_option maxRecDepth 100000 in
theorem gk142 : gT142.all (gokb 142) = true := by decide +kernel
set_option maxRecDepth 100000 in
theorem gk143 : gT143.all (gokb 143) = true := by decide +kernel
set_option maxRecDepth 100000 in
theorem gk144 : gT144.all (gokb 144) = true := by decide +kernel
set_option maxRecDepth 100000 in
theorem gk145 : gT145.all (gokb 145) = true := by decide +kernel
set_option maxRecDepth 100000 in
theorem gk146 : gT146.all (gokb 146) = true := by decide +kernel
set_option maxRecDepth 100000 in
theorem gk147 : gT147.all (gokb 147) = true := by decide +kernel
set_option maxRecDepth 100000 in
theorem gk148 : gT148.all (gokb 148) = true := by decide +kernel
set_option maxRecDepth 100000 in
theorem gk149 : gT149.all (gokb 149) = true := by decide +kernel
set_option maxRecDepth 100000 in
theorem gk150 : gT150.all (gokb 150) = true := by decide +kernel
set_option maxRecDepth 100000 in
theorem gk151 : gT151.all (gokb 151) = true := by decide +kernel
set_option maxRecDepth 100000 in
theorem gk152 : gT152.all (gokb 152) = true := by decide +kernel
set_option maxRecDepth 100000 in
theorem gk153 : gT153.all (gokb 153) = true := by decide +kernel
set_option maxRecDepth 100000 in
theorem gk154 : gT154.all (gokb 154) = true := by decide +kernel
set_option maxRecDepth 100000 in
theorem gk155 : gT155.all (gokb 155) = true := by decide +kernel
set_option maxRecDepth 100000 in
theorem gk156 : gT156.all (gokb 156) = true := by decide +kernel
set_option maxRecDepth 100000 in
theorem gk157 : gT157.all (gokb 157) = true := by decide +kernel
set_option maxRecDepth 100000 in
theorem gk158 : gT158.all (gokb 158) = true := by decide +kernel
set_option maxRecDepth 100000 in
theorem gk159 : gT159.all (gokb 159) = true := by decide +kernel
set_option maxRecDepth 100000 in
theorem gk160 : gT160.all (gokb 160) = true := by decide +kernel
set_option maxRecDepth 100000 in
theorem gk161 : gT161.all (gokb 161) = true := by decide +kernel
set_option maxRecDepth 100000 in
theorem gk162 : gT162.all (gokb 162) = true := by decide +kernel
set_option maxRecDepth 100000 in
theorem gk163 : gT163.all (gokb 163) = true := by decide +kernel
set_option maxRecDepth 100000 in
theorem gk164 : gT164.all (gokb 164) = true := by decide +kernel
set_option maxRecDepth 100000 in
theorem gk165 : gT165.all (gokb 165) = true := by decide +kernel
set_option maxRecDepth 100000 in
theorem gk166 : gT166.all (gokb 166) = true := by decide +kernel
set_option maxRecDepth 100000 in
theorem gk167 : gT167.all (gokb 167) = true := by decide +kernel
set_option maxRecDepth 100000 in
theorem gk168 : gT168.all (gokb 168) = true := by decide +kernel
set_option maxRecDepth 100000 in
theorem gk169 : gT169.all (gokb 169) = true := by decide +kernel
set_option maxRecDepth 100000 in
theorem gk170 : gT170.all (gokb 170) = true := by decide +kernel
set_option maxRecDepth 100000 in
theorem gk171 : gT171.all (gokb 171) = true := by decide +kernel
set_option maxRecDepth 100000 in
theorem gk172 : gT172.all (gokb 172) = true := by decide +kernel
set_option maxRecDepth 100000 in
theorem gk173 : gT173.all (gokb 173) = true := by decide +kernel
set_option maxRecDepth 100000 in
theorem gk174 : gT174.all (gokb 174) = true := by decide +kernel
set_option maxRecDepth 100000 in
theorem gk175 : gT175.all (gokb 175) = true := by decide +kernel
set_option maxRecDepth 100000 in
theorem gk176 : gT176.all (gokb 176) = true := by decide +kernel
set_option maxRecDepth 100000 in
theorem gk177 : gT177.all (gokb 177) = true := by decide +kernel
set_option maxRecDepth 100000 in
theorem gk178 : gT178.all (gokb 178) = true := by decide +kernel
set_option maxRecDepth 100000 in
theorem gk179 : gT179.all (gokb 179) = true := by decide +kernel
set_option maxRecDepth 100000 in
theorem gk180 : gT180.all (gokb 180) = true := by decide +kernel
set_option maxRecDepth 100000 in
theorem gk181 : gT181.all (gokb 181) = true := by decide +kernel
set_option maxRecDepth 100000 in
theorem gk182 : gT182.all (gokb 182) = true := by decide +kernel
set_option maxRecDepth 100000 in
theorem gk183 : gT183.all (gokb 183) = true := by decide +kernel
set_option maxRecDepth 100000 in
theorem gk184 : gT184.all (gokb 184) = true := by decide +kernel
set_option maxRecDepth 100000 in
theorem gk185 : gT185.all (gokb 185) = true := by decide +kernel
set_option maxRecDepth 100000 in
theorem gk186 : gT186.all (gokb 186) = true := by decide +kernel
set_option maxRecDepth 100000 in
theorem gk187 : gT187.all (gokb 187) = true := by decide +kernel
set_option maxRecDepth 100000 in
theorem gk188 : gT188.all (gokb 188) = true := by decide +kernel
set_option maxRecDepth 100000 in
theorem gk189 : gT189.all (gokb 189) = true := by decide +kernel
set_option maxRecDepth 100000 in
theorem gk190 : gT190.all (gokb 190) = true := by decide +kernel
set_option maxRecDepth 100000 in
theorem gk191 : gT191.all (gokb 191) = true := by decide +kernel
set_option maxRecDepth 100000 in
theorem gk192 : gT192.all (gokb 192) = true := by decide +kernel
set_option maxRecDepth 100000 in
theorem gk193 : gT193.all (gokb 193) = true := by decide +kernel
set_option maxRecDepth 100000 in
theorem gk194 : gT194.all (gokb 194) = true := by decide +kernel
set_option maxRecDepth 100000 in
theorem gk195 : gT195.all (gokb 195) = true := by decide +kernel
set_option maxRecDepth 100000 in
theorem gk196 : gT196.all (gokb 196) = true := by decide +kernel
set_option maxRecDepth 100000 in
theorem gk197 : gT197.all (gokb 197) = true := by decide +kernel
set_option maxRecDepth 100000 in
theorem gk198 : gT198.all (gokb 198) = true := by decide +kernel
set_option maxRecDepth 100000 in
theorem gk199 : gT199.all (gokb 199) = true := by decide +kernel
set_option maxRecDepth 100000 in
theorem gk200 : gT200.all (gokb 200) = true := by decide +kernel
set_option maxRecDepth 100000 in
theorem gk201 : gT201.all (gokb 201) = true := by decide +kernel
set_option maxRecDepth 100000 in
theorem gk202 : gT202.all (gokb 202) = true := by decide +kernel
set_option maxRecDepth 100000 in
theorem gk203 : gT203.all (gokb 203) = true := by decide +kernel
set_option maxRecDepth 100000 in
theorem gk204 : gT204.all (gokb 204) = true := by decide +kernel
