section GU
variable {d : Nat} {X : Nat × (Nat → Int32)} {sh : gS} {M : gM} {kc ks : Nat} {Q : gQ} {st : List Value} {l0 l1 l2 l3 l4 l5 l6 l7 l8 l9 l10 l11 : Option Value} {x y y2 y3 : Int32} {z z2 : Int64} {o o2 : Nat} {fk : UInt32} {v1 v2 v3 v4 v5 v6 : Value}
theorem gt205 : gTs.getD 205 [] = gT205 := rfl
set_option maxRecDepth 100000 in
theorem u205_0 : gR (gcl d) X 205 0 [l0, l1, l2, l3] st sh M kc ks Q = (gro1 205 kc ks 1 11 ∧ gR (gcl d) X 205 3 [l0, l1, l2, l3] (.ref sh.length :: st) (sh ++ [.inr (6, gdf 6)]) (gr M sh.length (fun _ => 0)) (kc + 1) (ks + 11) Q) := x_new (gcl_m d) (gopt (e := (.new 7, 3, 6, 11, 0)) gt205 rfl) (by decide) rfl
set_option maxRecDepth 100000 in
theorem u205_3 : gR (gcl d) X 205 3 [l0, l1, l2, l3] (.ref o :: st) sh M kc ks Q = gR (gcl d) X 205 4 [l0, l1, l2, l3] (.ref o :: .ref o :: st) sh M kc ks Q := x_dupr (gcl_m d) (gopt (e := (.dup, 1, 0, 0, 0)) gt205 rfl) rfl
set_option maxRecDepth 100000 in
theorem u205_3i : gR (gcl d) X 205 3 [l0, l1, l2, l3] (.int x :: st) sh M kc ks Q = gR (gcl d) X 205 4 [l0, l1, l2, l3] (.int x :: .int x :: st) sh M kc ks Q := x_dupi (gcl_m d) (gopt (e := (.dup, 1, 0, 0, 0)) gt205 rfl) rfl
set_option maxRecDepth 100000 in
theorem u205_4 : gR (gcl d) X 205 4 [l0, l1, l2, l3] (.ref o :: st) sh M kc ks Q = ((st.length ≤ 4 ∧ gro1 205 kc ks 28 1852) ∧ gcl d 74 [.ref o] sh M fun v sh2 M2 => gR (gcl d) X 205 7 [l0, l1, l2, l3] (v ++ st) sh2 M2 (kc + 28) (ks + 1852) Q) := x_ctor (gcl_m d) (gopt (e := (.invokespecial 9, 3, 74, 0, 2)) gt205 rfl) (by decide) rfl rfl rfl rfl
set_option maxRecDepth 100000 in
theorem u205_7 : gR (gcl d) X 205 7 [l0, l1, l2, l3] (.ref o :: st) sh M kc ks Q = gR (gcl d) X 205 8 [l0, some (.ref o), l2, l3] st sh M kc ks Q := x_astore_n (gcl_m d) (gopt (e := (.astore_n 1, 1, 0, 0, 0)) gt205 rfl) rfl rfl
set_option maxRecDepth 100000 in
theorem u205_8 : gR (gcl d) X 205 8 [l0, l1, l2, l3] st sh M kc ks Q = (gro1 205 kc ks 1 25 ∧ gR (gcl d) X 205 11 [l0, l1, l2, l3] (.ref sh.length :: st) (sh ++ [.inr (7, gdf 7)]) (gr M sh.length (fun _ => 0)) (kc + 1) (ks + 25) Q) := x_new (gcl_m d) (gopt (e := (.new 10, 3, 7, 25, 0)) gt205 rfl) (by decide) rfl
set_option maxRecDepth 100000 in
theorem u205_11 : gR (gcl d) X 205 11 [l0, l1, l2, l3] (.ref o :: st) sh M kc ks Q = gR (gcl d) X 205 12 [l0, l1, l2, l3] (.ref o :: .ref o :: st) sh M kc ks Q := x_dupr (gcl_m d) (gopt (e := (.dup, 1, 0, 0, 0)) gt205 rfl) rfl
set_option maxRecDepth 100000 in
theorem u205_11i : gR (gcl d) X 205 11 [l0, l1, l2, l3] (.int x :: st) sh M kc ks Q = gR (gcl d) X 205 12 [l0, l1, l2, l3] (.int x :: .int x :: st) sh M kc ks Q := x_dupi (gcl_m d) (gopt (e := (.dup, 1, 0, 0, 0)) gt205 rfl) rfl
set_option maxRecDepth 100000 in
theorem u205_12 : gR (gcl d) X 205 12 [l0, l1, l2, l3] (.ref o :: st) sh M kc ks Q = ((st.length ≤ 4 ∧ gro1 205 kc ks 13 1855) ∧ gcl d 122 [.ref o] sh M fun v sh2 M2 => gR (gcl d) X 205 15 [l0, l1, l2, l3] (v ++ st) sh2 M2 (kc + 13) (ks + 1855) Q) := x_ctor (gcl_m d) (gopt (e := (.invokespecial 12, 3, 122, 0, 2)) gt205 rfl) (by decide) rfl rfl rfl rfl
set_option maxRecDepth 100000 in
theorem u205_15 : gR (gcl d) X 205 15 [l0, l1, l2, l3] (.ref o :: st) sh M kc ks Q = gR (gcl d) X 205 16 [l0, l1, some (.ref o), l3] st sh M kc ks Q := x_astore_n (gcl_m d) (gopt (e := (.astore_n 2, 1, 0, 0, 0)) gt205 rfl) rfl rfl
set_option maxRecDepth 100000 in
theorem u205_16 : gR (gcl d) X 205 16 [l0, l1, l2, l3] st sh M kc ks Q = gR (gcl d) X 205 17 [l0, l1, l2, l3] (.int (nI 0) :: st) sh M kc ks Q := x_iconst (gcl_m d) (gopt (e := (.iconst 0, 1, 0, 0, 0)) gt205 rfl) (by decide) rfl
set_option maxRecDepth 100000 in
theorem u205_17 : gR (gcl d) X 205 17 [l0, l1, l2, l3] (.int x :: st) sh M kc ks Q = gR (gcl d) X 205 18 [l0, l1, l2, some (.int x)] st sh M kc ks Q := x_istore_n (gcl_m d) (gopt (e := (.istore_n 3, 1, 0, 0, 0)) gt205 rfl) rfl rfl
set_option maxRecDepth 100000 in
theorem u205_18 : gR (gcl d) X 205 18 [l0, l1, l2, some (.int x)] st sh M kc ks Q = gR (gcl d) X 205 19 [l0, l1, l2, some (.int x)] (.int x :: st) sh M kc ks Q := x_iload_n (gcl_m d) (gopt (e := (.iload_n 3, 1, 0, 0, 0)) gt205 rfl) rfl rfl
set_option maxRecDepth 100000 in
theorem u205_19 : gR (gcl d) X 205 19 [some (.ref o), l1, l2, l3] st sh M kc ks Q = gR (gcl d) X 205 20 [some (.ref o), l1, l2, l3] (.ref o :: st) sh M kc ks Q := x_aload_n (gcl_m d) (gopt (e := (.aload_n 0, 1, 0, 0, 0)) gt205 rfl) rfl rfl
set_option maxRecDepth 100000 in
theorem u205_19f : gR (gcl d) X 205 19 [some (.float fk), l1, l2, l3] st sh M kc ks Q = gR (gcl d) X 205 20 [some (.float fk), l1, l2, l3] (.float fk :: st) sh M kc ks Q := x_aload_nf (gcl_m d) (gopt (e := (.aload_n 0, 1, 0, 0, 0)) gt205 rfl) rfl rfl
set_option maxRecDepth 100000 in
theorem u205_20 : gR (gcl d) X 205 20 [l0, l1, l2, l3] (.float fk :: st) sh M kc ks Q = ((¬ (gro 205 X fk).1 = 0 ∨ (205 = gLAW ∧ fk = 0)) ∧ gR (gcl d) X 205 21 [l0, l1, l2, l3] (.int (nI (gro 205 X fk).1) :: st) sh M kc ks Q) := x_alro (gcl_m d) (gopt (e := (.arraylength, 1, 0, 0, 0)) gt205 rfl) rfl
set_option maxRecDepth 100000 in
theorem u205_21 : gR (gcl d) X 205 21 [l0, l1, l2, l3] st sh M kc ks Q = gR (gcl d) X 205 23 [l0, l1, l2, l3] (.int (nI 6) :: st) sh M kc ks Q := x_bipush (gcl_m d) (gopt (e := (.bipush 6, 2, 0, 0, 0)) gt205 rfl) (by decide) rfl
set_option maxRecDepth 100000 in
theorem u205_23 : gR (gcl d) X 205 23 [l0, l1, l2, l3] (.int y :: .int x :: st) sh M kc ks Q = gR (gcl d) X 205 24 [l0, l1, l2, l3] (.int (x - y) :: st) sh M kc ks Q := x_isub (gcl_m d) (gopt (e := (.isub, 1, 0, 0, 0)) gt205 rfl) rfl
set_option maxRecDepth 100000 in
theorem u205_24 : gR (gcl d) X 205 24 [l0, l1, l2, l3] (.int y :: .int x :: st) sh M kc ks Q = ((y < x → gR (gcl d) X 205 1228 [l0, l1, l2, l3] st sh M kc ks Q) ∧ (¬ y < x → gR (gcl d) X 205 27 [l0, l1, l2, l3] st sh M kc ks Q)) := x_icmp_gt (gcl_m d) (gopt (e := (.if_icmp .gt 1204, 3, 1228, 0, 0)) gt205 rfl) rfl
set_option maxRecDepth 100000 in
theorem u205_27 : gR (gcl d) X 205 27 [some (.ref o), l1, l2, l3] st sh M kc ks Q = gR (gcl d) X 205 28 [some (.ref o), l1, l2, l3] (.ref o :: st) sh M kc ks Q := x_aload_n (gcl_m d) (gopt (e := (.aload_n 0, 1, 0, 0, 0)) gt205 rfl) rfl rfl
set_option maxRecDepth 100000 in
theorem u205_27f : gR (gcl d) X 205 27 [some (.float fk), l1, l2, l3] st sh M kc ks Q = gR (gcl d) X 205 28 [some (.float fk), l1, l2, l3] (.float fk :: st) sh M kc ks Q := x_aload_nf (gcl_m d) (gopt (e := (.aload_n 0, 1, 0, 0, 0)) gt205 rfl) rfl rfl
set_option maxRecDepth 100000 in
theorem u205_28 : gR (gcl d) X 205 28 [l0, l1, l2, some (.int x)] st sh M kc ks Q = gR (gcl d) X 205 29 [l0, l1, l2, some (.int x)] (.int x :: st) sh M kc ks Q := x_iload_n (gcl_m d) (gopt (e := (.iload_n 3, 1, 0, 0, 0)) gt205 rfl) rfl rfl
set_option maxRecDepth 100000 in
theorem u205_29 : gR (gcl d) X 205 29 [l0, l1, l2, l3] (.int x :: .float fk :: st) sh M kc ks Q = (vp_in x (gro 205 X fk).1 ∧ gR (gcl d) X 205 30 [l0, l1, l2, l3] (.int ((gro 205 X fk).2 x.toNatClampNeg) :: st) sh M kc ks Q) := x_iaro (gcl_m d) (gopt (e := (.iaload, 1, 0, 0, 0)) gt205 rfl) rfl
set_option maxRecDepth 100000 in
theorem u205_30 : gR (gcl d) X 205 30 [l0, l1, l2, l3] st sh M kc ks Q = gR (gcl d) X 205 32 [l0, l1, l2, l3] (.int (nI 31) :: st) sh M kc ks Q := x_bipush (gcl_m d) (gopt (e := (.bipush 31, 2, 0, 0, 0)) gt205 rfl) (by decide) rfl
set_option maxRecDepth 100000 in
theorem u205_32 : gR (gcl d) X 205 32 [l0, l1, l2, l3] (.int y :: .int x :: st) sh M kc ks Q = gR (gcl d) X 205 33 [l0, l1, l2, l3] (.int (x &&& y) :: st) sh M kc ks Q := x_iand (gcl_m d) (gopt (e := (.iand, 1, 0, 0, 0)) gt205 rfl) rfl
set_option maxRecDepth 100000 in
theorem u205_33_0 : gR (gcl d) X 205 33 [l0, l1, l2, l3] (.int (nI 0) :: st) sh M kc ks Q = gR (gcl d) X 205 176 [l0, l1, l2, l3] st sh M kc ks Q := x_tsw (x := nI 0) (off := 143) (gcl_m d) (gopt (e := (.tableswitch 1189 0 31 #[143, 186, 229, 292, 315, 338, 351, 364, 387, 420, 443, 476, 489, 522, 555, 588, 621, 664, 687, 730, 783, 816, 869, 932, 995, 1018, 1041, 1064, 1097, 1130, 1153, 1176], 143, 0, 0, 0)) gt205 rfl) (by decide) (by decide) (by decide)
set_option maxRecDepth 100000 in
theorem u205_33_1 : gR (gcl d) X 205 33 [l0, l1, l2, l3] (.int (nI 1) :: st) sh M kc ks Q = gR (gcl d) X 205 219 [l0, l1, l2, l3] st sh M kc ks Q := x_tsw (x := nI 1) (off := 186) (gcl_m d) (gopt (e := (.tableswitch 1189 0 31 #[143, 186, 229, 292, 315, 338, 351, 364, 387, 420, 443, 476, 489, 522, 555, 588, 621, 664, 687, 730, 783, 816, 869, 932, 995, 1018, 1041, 1064, 1097, 1130, 1153, 1176], 143, 0, 0, 0)) gt205 rfl) (by decide) (by decide) (by decide)
set_option maxRecDepth 100000 in
theorem u205_33_2 : gR (gcl d) X 205 33 [l0, l1, l2, l3] (.int (nI 2) :: st) sh M kc ks Q = gR (gcl d) X 205 262 [l0, l1, l2, l3] st sh M kc ks Q := x_tsw (x := nI 2) (off := 229) (gcl_m d) (gopt (e := (.tableswitch 1189 0 31 #[143, 186, 229, 292, 315, 338, 351, 364, 387, 420, 443, 476, 489, 522, 555, 588, 621, 664, 687, 730, 783, 816, 869, 932, 995, 1018, 1041, 1064, 1097, 1130, 1153, 1176], 143, 0, 0, 0)) gt205 rfl) (by decide) (by decide) (by decide)
set_option maxRecDepth 100000 in
theorem u205_33_3 : gR (gcl d) X 205 33 [l0, l1, l2, l3] (.int (nI 3) :: st) sh M kc ks Q = gR (gcl d) X 205 325 [l0, l1, l2, l3] st sh M kc ks Q := x_tsw (x := nI 3) (off := 292) (gcl_m d) (gopt (e := (.tableswitch 1189 0 31 #[143, 186, 229, 292, 315, 338, 351, 364, 387, 420, 443, 476, 489, 522, 555, 588, 621, 664, 687, 730, 783, 816, 869, 932, 995, 1018, 1041, 1064, 1097, 1130, 1153, 1176], 143, 0, 0, 0)) gt205 rfl) (by decide) (by decide) (by decide)
set_option maxRecDepth 100000 in
theorem u205_33_4 : gR (gcl d) X 205 33 [l0, l1, l2, l3] (.int (nI 4) :: st) sh M kc ks Q = gR (gcl d) X 205 348 [l0, l1, l2, l3] st sh M kc ks Q := x_tsw (x := nI 4) (off := 315) (gcl_m d) (gopt (e := (.tableswitch 1189 0 31 #[143, 186, 229, 292, 315, 338, 351, 364, 387, 420, 443, 476, 489, 522, 555, 588, 621, 664, 687, 730, 783, 816, 869, 932, 995, 1018, 1041, 1064, 1097, 1130, 1153, 1176], 143, 0, 0, 0)) gt205 rfl) (by decide) (by decide) (by decide)
set_option maxRecDepth 100000 in
theorem u205_33_5 : gR (gcl d) X 205 33 [l0, l1, l2, l3] (.int (nI 5) :: st) sh M kc ks Q = gR (gcl d) X 205 371 [l0, l1, l2, l3] st sh M kc ks Q := x_tsw (x := nI 5) (off := 338) (gcl_m d) (gopt (e := (.tableswitch 1189 0 31 #[143, 186, 229, 292, 315, 338, 351, 364, 387, 420, 443, 476, 489, 522, 555, 588, 621, 664, 687, 730, 783, 816, 869, 932, 995, 1018, 1041, 1064, 1097, 1130, 1153, 1176], 143, 0, 0, 0)) gt205 rfl) (by decide) (by decide) (by decide)
set_option maxRecDepth 100000 in
theorem u205_33_6 : gR (gcl d) X 205 33 [l0, l1, l2, l3] (.int (nI 6) :: st) sh M kc ks Q = gR (gcl d) X 205 384 [l0, l1, l2, l3] st sh M kc ks Q := x_tsw (x := nI 6) (off := 351) (gcl_m d) (gopt (e := (.tableswitch 1189 0 31 #[143, 186, 229, 292, 315, 338, 351, 364, 387, 420, 443, 476, 489, 522, 555, 588, 621, 664, 687, 730, 783, 816, 869, 932, 995, 1018, 1041, 1064, 1097, 1130, 1153, 1176], 143, 0, 0, 0)) gt205 rfl) (by decide) (by decide) (by decide)
set_option maxRecDepth 100000 in
theorem u205_33_7 : gR (gcl d) X 205 33 [l0, l1, l2, l3] (.int (nI 7) :: st) sh M kc ks Q = gR (gcl d) X 205 397 [l0, l1, l2, l3] st sh M kc ks Q := x_tsw (x := nI 7) (off := 364) (gcl_m d) (gopt (e := (.tableswitch 1189 0 31 #[143, 186, 229, 292, 315, 338, 351, 364, 387, 420, 443, 476, 489, 522, 555, 588, 621, 664, 687, 730, 783, 816, 869, 932, 995, 1018, 1041, 1064, 1097, 1130, 1153, 1176], 143, 0, 0, 0)) gt205 rfl) (by decide) (by decide) (by decide)
set_option maxRecDepth 100000 in
theorem u205_33_8 : gR (gcl d) X 205 33 [l0, l1, l2, l3] (.int (nI 8) :: st) sh M kc ks Q = gR (gcl d) X 205 420 [l0, l1, l2, l3] st sh M kc ks Q := x_tsw (x := nI 8) (off := 387) (gcl_m d) (gopt (e := (.tableswitch 1189 0 31 #[143, 186, 229, 292, 315, 338, 351, 364, 387, 420, 443, 476, 489, 522, 555, 588, 621, 664, 687, 730, 783, 816, 869, 932, 995, 1018, 1041, 1064, 1097, 1130, 1153, 1176], 143, 0, 0, 0)) gt205 rfl) (by decide) (by decide) (by decide)
set_option maxRecDepth 100000 in
theorem u205_33_9 : gR (gcl d) X 205 33 [l0, l1, l2, l3] (.int (nI 9) :: st) sh M kc ks Q = gR (gcl d) X 205 453 [l0, l1, l2, l3] st sh M kc ks Q := x_tsw (x := nI 9) (off := 420) (gcl_m d) (gopt (e := (.tableswitch 1189 0 31 #[143, 186, 229, 292, 315, 338, 351, 364, 387, 420, 443, 476, 489, 522, 555, 588, 621, 664, 687, 730, 783, 816, 869, 932, 995, 1018, 1041, 1064, 1097, 1130, 1153, 1176], 143, 0, 0, 0)) gt205 rfl) (by decide) (by decide) (by decide)
set_option maxRecDepth 100000 in
theorem u205_33_10 : gR (gcl d) X 205 33 [l0, l1, l2, l3] (.int (nI 10) :: st) sh M kc ks Q = gR (gcl d) X 205 476 [l0, l1, l2, l3] st sh M kc ks Q := x_tsw (x := nI 10) (off := 443) (gcl_m d) (gopt (e := (.tableswitch 1189 0 31 #[143, 186, 229, 292, 315, 338, 351, 364, 387, 420, 443, 476, 489, 522, 555, 588, 621, 664, 687, 730, 783, 816, 869, 932, 995, 1018, 1041, 1064, 1097, 1130, 1153, 1176], 143, 0, 0, 0)) gt205 rfl) (by decide) (by decide) (by decide)
set_option maxRecDepth 100000 in
theorem u205_33_11 : gR (gcl d) X 205 33 [l0, l1, l2, l3] (.int (nI 11) :: st) sh M kc ks Q = gR (gcl d) X 205 509 [l0, l1, l2, l3] st sh M kc ks Q := x_tsw (x := nI 11) (off := 476) (gcl_m d) (gopt (e := (.tableswitch 1189 0 31 #[143, 186, 229, 292, 315, 338, 351, 364, 387, 420, 443, 476, 489, 522, 555, 588, 621, 664, 687, 730, 783, 816, 869, 932, 995, 1018, 1041, 1064, 1097, 1130, 1153, 1176], 143, 0, 0, 0)) gt205 rfl) (by decide) (by decide) (by decide)
set_option maxRecDepth 100000 in
theorem u205_33_12 : gR (gcl d) X 205 33 [l0, l1, l2, l3] (.int (nI 12) :: st) sh M kc ks Q = gR (gcl d) X 205 522 [l0, l1, l2, l3] st sh M kc ks Q := x_tsw (x := nI 12) (off := 489) (gcl_m d) (gopt (e := (.tableswitch 1189 0 31 #[143, 186, 229, 292, 315, 338, 351, 364, 387, 420, 443, 476, 489, 522, 555, 588, 621, 664, 687, 730, 783, 816, 869, 932, 995, 1018, 1041, 1064, 1097, 1130, 1153, 1176], 143, 0, 0, 0)) gt205 rfl) (by decide) (by decide) (by decide)
set_option maxRecDepth 100000 in
theorem u205_33_13 : gR (gcl d) X 205 33 [l0, l1, l2, l3] (.int (nI 13) :: st) sh M kc ks Q = gR (gcl d) X 205 555 [l0, l1, l2, l3] st sh M kc ks Q := x_tsw (x := nI 13) (off := 522) (gcl_m d) (gopt (e := (.tableswitch 1189 0 31 #[143, 186, 229, 292, 315, 338, 351, 364, 387, 420, 443, 476, 489, 522, 555, 588, 621, 664, 687, 730, 783, 816, 869, 932, 995, 1018, 1041, 1064, 1097, 1130, 1153, 1176], 143, 0, 0, 0)) gt205 rfl) (by decide) (by decide) (by decide)
set_option maxRecDepth 100000 in
theorem u205_33_14 : gR (gcl d) X 205 33 [l0, l1, l2, l3] (.int (nI 14) :: st) sh M kc ks Q = gR (gcl d) X 205 588 [l0, l1, l2, l3] st sh M kc ks Q := x_tsw (x := nI 14) (off := 555) (gcl_m d) (gopt (e := (.tableswitch 1189 0 31 #[143, 186, 229, 292, 315, 338, 351, 364, 387, 420, 443, 476, 489, 522, 555, 588, 621, 664, 687, 730, 783, 816, 869, 932, 995, 1018, 1041, 1064, 1097, 1130, 1153, 1176], 143, 0, 0, 0)) gt205 rfl) (by decide) (by decide) (by decide)
set_option maxRecDepth 100000 in
theorem u205_33_15 : gR (gcl d) X 205 33 [l0, l1, l2, l3] (.int (nI 15) :: st) sh M kc ks Q = gR (gcl d) X 205 621 [l0, l1, l2, l3] st sh M kc ks Q := x_tsw (x := nI 15) (off := 588) (gcl_m d) (gopt (e := (.tableswitch 1189 0 31 #[143, 186, 229, 292, 315, 338, 351, 364, 387, 420, 443, 476, 489, 522, 555, 588, 621, 664, 687, 730, 783, 816, 869, 932, 995, 1018, 1041, 1064, 1097, 1130, 1153, 1176], 143, 0, 0, 0)) gt205 rfl) (by decide) (by decide) (by decide)
set_option maxRecDepth 100000 in
theorem u205_33_16 : gR (gcl d) X 205 33 [l0, l1, l2, l3] (.int (nI 16) :: st) sh M kc ks Q = gR (gcl d) X 205 654 [l0, l1, l2, l3] st sh M kc ks Q := x_tsw (x := nI 16) (off := 621) (gcl_m d) (gopt (e := (.tableswitch 1189 0 31 #[143, 186, 229, 292, 315, 338, 351, 364, 387, 420, 443, 476, 489, 522, 555, 588, 621, 664, 687, 730, 783, 816, 869, 932, 995, 1018, 1041, 1064, 1097, 1130, 1153, 1176], 143, 0, 0, 0)) gt205 rfl) (by decide) (by decide) (by decide)
set_option maxRecDepth 100000 in
theorem u205_33_17 : gR (gcl d) X 205 33 [l0, l1, l2, l3] (.int (nI 17) :: st) sh M kc ks Q = gR (gcl d) X 205 697 [l0, l1, l2, l3] st sh M kc ks Q := x_tsw (x := nI 17) (off := 664) (gcl_m d) (gopt (e := (.tableswitch 1189 0 31 #[143, 186, 229, 292, 315, 338, 351, 364, 387, 420, 443, 476, 489, 522, 555, 588, 621, 664, 687, 730, 783, 816, 869, 932, 995, 1018, 1041, 1064, 1097, 1130, 1153, 1176], 143, 0, 0, 0)) gt205 rfl) (by decide) (by decide) (by decide)
set_option maxRecDepth 100000 in
theorem u205_33_18 : gR (gcl d) X 205 33 [l0, l1, l2, l3] (.int (nI 18) :: st) sh M kc ks Q = gR (gcl d) X 205 720 [l0, l1, l2, l3] st sh M kc ks Q := x_tsw (x := nI 18) (off := 687) (gcl_m d) (gopt (e := (.tableswitch 1189 0 31 #[143, 186, 229, 292, 315, 338, 351, 364, 387, 420, 443, 476, 489, 522, 555, 588, 621, 664, 687, 730, 783, 816, 869, 932, 995, 1018, 1041, 1064, 1097, 1130, 1153, 1176], 143, 0, 0, 0)) gt205 rfl) (by decide) (by decide) (by decide)
set_option maxRecDepth 100000 in
theorem u205_33_19 : gR (gcl d) X 205 33 [l0, l1, l2, l3] (.int (nI 19) :: st) sh M kc ks Q = gR (gcl d) X 205 763 [l0, l1, l2, l3] st sh M kc ks Q := x_tsw (x := nI 19) (off := 730) (gcl_m d) (gopt (e := (.tableswitch 1189 0 31 #[143, 186, 229, 292, 315, 338, 351, 364, 387, 420, 443, 476, 489, 522, 555, 588, 621, 664, 687, 730, 783, 816, 869, 932, 995, 1018, 1041, 1064, 1097, 1130, 1153, 1176], 143, 0, 0, 0)) gt205 rfl) (by decide) (by decide) (by decide)
set_option maxRecDepth 100000 in
theorem u205_33_20 : gR (gcl d) X 205 33 [l0, l1, l2, l3] (.int (nI 20) :: st) sh M kc ks Q = gR (gcl d) X 205 816 [l0, l1, l2, l3] st sh M kc ks Q := x_tsw (x := nI 20) (off := 783) (gcl_m d) (gopt (e := (.tableswitch 1189 0 31 #[143, 186, 229, 292, 315, 338, 351, 364, 387, 420, 443, 476, 489, 522, 555, 588, 621, 664, 687, 730, 783, 816, 869, 932, 995, 1018, 1041, 1064, 1097, 1130, 1153, 1176], 143, 0, 0, 0)) gt205 rfl) (by decide) (by decide) (by decide)
set_option maxRecDepth 100000 in
theorem u205_33_21 : gR (gcl d) X 205 33 [l0, l1, l2, l3] (.int (nI 21) :: st) sh M kc ks Q = gR (gcl d) X 205 849 [l0, l1, l2, l3] st sh M kc ks Q := x_tsw (x := nI 21) (off := 816) (gcl_m d) (gopt (e := (.tableswitch 1189 0 31 #[143, 186, 229, 292, 315, 338, 351, 364, 387, 420, 443, 476, 489, 522, 555, 588, 621, 664, 687, 730, 783, 816, 869, 932, 995, 1018, 1041, 1064, 1097, 1130, 1153, 1176], 143, 0, 0, 0)) gt205 rfl) (by decide) (by decide) (by decide)
set_option maxRecDepth 100000 in
theorem u205_33_22 : gR (gcl d) X 205 33 [l0, l1, l2, l3] (.int (nI 22) :: st) sh M kc ks Q = gR (gcl d) X 205 902 [l0, l1, l2, l3] st sh M kc ks Q := x_tsw (x := nI 22) (off := 869) (gcl_m d) (gopt (e := (.tableswitch 1189 0 31 #[143, 186, 229, 292, 315, 338, 351, 364, 387, 420, 443, 476, 489, 522, 555, 588, 621, 664, 687, 730, 783, 816, 869, 932, 995, 1018, 1041, 1064, 1097, 1130, 1153, 1176], 143, 0, 0, 0)) gt205 rfl) (by decide) (by decide) (by decide)
set_option maxRecDepth 100000 in
theorem u205_33_23 : gR (gcl d) X 205 33 [l0, l1, l2, l3] (.int (nI 23) :: st) sh M kc ks Q = gR (gcl d) X 205 965 [l0, l1, l2, l3] st sh M kc ks Q := x_tsw (x := nI 23) (off := 932) (gcl_m d) (gopt (e := (.tableswitch 1189 0 31 #[143, 186, 229, 292, 315, 338, 351, 364, 387, 420, 443, 476, 489, 522, 555, 588, 621, 664, 687, 730, 783, 816, 869, 932, 995, 1018, 1041, 1064, 1097, 1130, 1153, 1176], 143, 0, 0, 0)) gt205 rfl) (by decide) (by decide) (by decide)
set_option maxRecDepth 100000 in
theorem u205_33_24 : gR (gcl d) X 205 33 [l0, l1, l2, l3] (.int (nI 24) :: st) sh M kc ks Q = gR (gcl d) X 205 1028 [l0, l1, l2, l3] st sh M kc ks Q := x_tsw (x := nI 24) (off := 995) (gcl_m d) (gopt (e := (.tableswitch 1189 0 31 #[143, 186, 229, 292, 315, 338, 351, 364, 387, 420, 443, 476, 489, 522, 555, 588, 621, 664, 687, 730, 783, 816, 869, 932, 995, 1018, 1041, 1064, 1097, 1130, 1153, 1176], 143, 0, 0, 0)) gt205 rfl) (by decide) (by decide) (by decide)
set_option maxRecDepth 100000 in
theorem u205_33_25 : gR (gcl d) X 205 33 [l0, l1, l2, l3] (.int (nI 25) :: st) sh M kc ks Q = gR (gcl d) X 205 1051 [l0, l1, l2, l3] st sh M kc ks Q := x_tsw (x := nI 25) (off := 1018) (gcl_m d) (gopt (e := (.tableswitch 1189 0 31 #[143, 186, 229, 292, 315, 338, 351, 364, 387, 420, 443, 476, 489, 522, 555, 588, 621, 664, 687, 730, 783, 816, 869, 932, 995, 1018, 1041, 1064, 1097, 1130, 1153, 1176], 143, 0, 0, 0)) gt205 rfl) (by decide) (by decide) (by decide)
set_option maxRecDepth 100000 in
theorem u205_33_26 : gR (gcl d) X 205 33 [l0, l1, l2, l3] (.int (nI 26) :: st) sh M kc ks Q = gR (gcl d) X 205 1074 [l0, l1, l2, l3] st sh M kc ks Q := x_tsw (x := nI 26) (off := 1041) (gcl_m d) (gopt (e := (.tableswitch 1189 0 31 #[143, 186, 229, 292, 315, 338, 351, 364, 387, 420, 443, 476, 489, 522, 555, 588, 621, 664, 687, 730, 783, 816, 869, 932, 995, 1018, 1041, 1064, 1097, 1130, 1153, 1176], 143, 0, 0, 0)) gt205 rfl) (by decide) (by decide) (by decide)
set_option maxRecDepth 100000 in
theorem u205_33_27 : gR (gcl d) X 205 33 [l0, l1, l2, l3] (.int (nI 27) :: st) sh M kc ks Q = gR (gcl d) X 205 1097 [l0, l1, l2, l3] st sh M kc ks Q := x_tsw (x := nI 27) (off := 1064) (gcl_m d) (gopt (e := (.tableswitch 1189 0 31 #[143, 186, 229, 292, 315, 338, 351, 364, 387, 420, 443, 476, 489, 522, 555, 588, 621, 664, 687, 730, 783, 816, 869, 932, 995, 1018, 1041, 1064, 1097, 1130, 1153, 1176], 143, 0, 0, 0)) gt205 rfl) (by decide) (by decide) (by decide)
set_option maxRecDepth 100000 in
theorem u205_33_28 : gR (gcl d) X 205 33 [l0, l1, l2, l3] (.int (nI 28) :: st) sh M kc ks Q = gR (gcl d) X 205 1130 [l0, l1, l2, l3] st sh M kc ks Q := x_tsw (x := nI 28) (off := 1097) (gcl_m d) (gopt (e := (.tableswitch 1189 0 31 #[143, 186, 229, 292, 315, 338, 351, 364, 387, 420, 443, 476, 489, 522, 555, 588, 621, 664, 687, 730, 783, 816, 869, 932, 995, 1018, 1041, 1064, 1097, 1130, 1153, 1176], 143, 0, 0, 0)) gt205 rfl) (by decide) (by decide) (by decide)
set_option maxRecDepth 100000 in
theorem u205_33_29 : gR (gcl d) X 205 33 [l0, l1, l2, l3] (.int (nI 29) :: st) sh M kc ks Q = gR (gcl d) X 205 1163 [l0, l1, l2, l3] st sh M kc ks Q := x_tsw (x := nI 29) (off := 1130) (gcl_m d) (gopt (e := (.tableswitch 1189 0 31 #[143, 186, 229, 292, 315, 338, 351, 364, 387, 420, 443, 476, 489, 522, 555, 588, 621, 664, 687, 730, 783, 816, 869, 932, 995, 1018, 1041, 1064, 1097, 1130, 1153, 1176], 143, 0, 0, 0)) gt205 rfl) (by decide) (by decide) (by decide)
set_option maxRecDepth 100000 in
theorem u205_33_30 : gR (gcl d) X 205 33 [l0, l1, l2, l3] (.int (nI 30) :: st) sh M kc ks Q = gR (gcl d) X 205 1186 [l0, l1, l2, l3] st sh M kc ks Q := x_tsw (x := nI 30) (off := 1153) (gcl_m d) (gopt (e := (.tableswitch 1189 0 31 #[143, 186, 229, 292, 315, 338, 351, 364, 387, 420, 443, 476, 489, 522, 555, 588, 621, 664, 687, 730, 783, 816, 869, 932, 995, 1018, 1041, 1064, 1097, 1130, 1153, 1176], 143, 0, 0, 0)) gt205 rfl) (by decide) (by decide) (by decide)
set_option maxRecDepth 100000 in
theorem u205_33_31 : gR (gcl d) X 205 33 [l0, l1, l2, l3] (.int (nI 31) :: st) sh M kc ks Q = gR (gcl d) X 205 1209 [l0, l1, l2, l3] st sh M kc ks Q := x_tsw (x := nI 31) (off := 1176) (gcl_m d) (gopt (e := (.tableswitch 1189 0 31 #[143, 186, 229, 292, 315, 338, 351, 364, 387, 420, 443, 476, 489, 522, 555, 588, 621, 664, 687, 730, 783, 816, 869, 932, 995, 1018, 1041, 1064, 1097, 1130, 1153, 1176], 143, 0, 0, 0)) gt205 rfl) (by decide) (by decide) (by decide)
set_option maxRecDepth 100000 in
theorem u205_33_d (h : x.toInt < 0 ∨ 31 < x.toInt) : gR (gcl d) X 205 33 [l0, l1, l2, l3] (.int x :: st) sh M kc ks Q = gR (gcl d) X 205 1222 [l0, l1, l2, l3] st sh M kc ks Q := x_tswd (gcl_m d) (gopt (e := (.tableswitch 1189 0 31 #[143, 186, 229, 292, 315, 338, 351, 364, 387, 420, 443, 476, 489, 522, 555, 588, 621, 664, 687, 730, 783, 816, 869, 932, 995, 1018, 1041, 1064, 1097, 1130, 1153, 1176], 143, 0, 0, 0)) gt205 rfl) h (by decide)
set_option maxRecDepth 100000 in
theorem u205_176 : gR (gcl d) X 205 176 [l0, some (.ref o), l2, l3] st sh M kc ks Q = gR (gcl d) X 205 177 [l0, some (.ref o), l2, l3] (.ref o :: st) sh M kc ks Q := x_aload_n (gcl_m d) (gopt (e := (.aload_n 1, 1, 0, 0, 0)) gt205 rfl) rfl rfl
set_option maxRecDepth 100000 in
theorem u205_176f : gR (gcl d) X 205 176 [l0, some (.float fk), l2, l3] st sh M kc ks Q = gR (gcl d) X 205 177 [l0, some (.float fk), l2, l3] (.float fk :: st) sh M kc ks Q := x_aload_nf (gcl_m d) (gopt (e := (.aload_n 1, 1, 0, 0, 0)) gt205 rfl) rfl rfl
set_option maxRecDepth 100000 in
theorem u205_177 : gR (gcl d) X 205 177 [some (.ref o), l1, l2, l3] st sh M kc ks Q = gR (gcl d) X 205 178 [some (.ref o), l1, l2, l3] (.ref o :: st) sh M kc ks Q := x_aload_n (gcl_m d) (gopt (e := (.aload_n 0, 1, 0, 0, 0)) gt205 rfl) rfl rfl
set_option maxRecDepth 100000 in
theorem u205_177f : gR (gcl d) X 205 177 [some (.float fk), l1, l2, l3] st sh M kc ks Q = gR (gcl d) X 205 178 [some (.float fk), l1, l2, l3] (.float fk :: st) sh M kc ks Q := x_aload_nf (gcl_m d) (gopt (e := (.aload_n 0, 1, 0, 0, 0)) gt205 rfl) rfl rfl
set_option maxRecDepth 100000 in
theorem u205_178 : gR (gcl d) X 205 178 [l0, l1, l2, some (.int x)] st sh M kc ks Q = gR (gcl d) X 205 179 [l0, l1, l2, some (.int x)] (.int x :: st) sh M kc ks Q := x_iload_n (gcl_m d) (gopt (e := (.iload_n 3, 1, 0, 0, 0)) gt205 rfl) rfl rfl
set_option maxRecDepth 100000 in
theorem u205_179 : gR (gcl d) X 205 179 [l0, l1, l2, l3] st sh M kc ks Q = gR (gcl d) X 205 180 [l0, l1, l2, l3] (.int (nI 1) :: st) sh M kc ks Q := x_iconst (gcl_m d) (gopt (e := (.iconst 1, 1, 0, 0, 0)) gt205 rfl) (by decide) rfl
set_option maxRecDepth 100000 in
theorem u205_180 : gR (gcl d) X 205 180 [l0, l1, l2, l3] (.int y :: .int x :: st) sh M kc ks Q = gR (gcl d) X 205 181 [l0, l1, l2, l3] (.int (x + y) :: st) sh M kc ks Q := x_iadd (gcl_m d) (gopt (e := (.iadd, 1, 0, 0, 0)) gt205 rfl) rfl
set_option maxRecDepth 100000 in
theorem u205_181 : gR (gcl d) X 205 181 [l0, l1, l2, l3] (.int x :: .float fk :: st) sh M kc ks Q = (vp_in x (gro 205 X fk).1 ∧ gR (gcl d) X 205 182 [l0, l1, l2, l3] (.int ((gro 205 X fk).2 x.toNatClampNeg) :: st) sh M kc ks Q) := x_iaro (gcl_m d) (gopt (e := (.iaload, 1, 0, 0, 0)) gt205 rfl) rfl
set_option maxRecDepth 100000 in
theorem u205_182 : gR (gcl d) X 205 182 [some (.ref o), l1, l2, l3] st sh M kc ks Q = gR (gcl d) X 205 183 [some (.ref o), l1, l2, l3] (.ref o :: st) sh M kc ks Q := x_aload_n (gcl_m d) (gopt (e := (.aload_n 0, 1, 0, 0, 0)) gt205 rfl) rfl rfl
set_option maxRecDepth 100000 in
theorem u205_182f : gR (gcl d) X 205 182 [some (.float fk), l1, l2, l3] st sh M kc ks Q = gR (gcl d) X 205 183 [some (.float fk), l1, l2, l3] (.float fk :: st) sh M kc ks Q := x_aload_nf (gcl_m d) (gopt (e := (.aload_n 0, 1, 0, 0, 0)) gt205 rfl) rfl rfl
set_option maxRecDepth 100000 in
theorem u205_183 : gR (gcl d) X 205 183 [l0, l1, l2, some (.int x)] st sh M kc ks Q = gR (gcl d) X 205 184 [l0, l1, l2, some (.int x)] (.int x :: st) sh M kc ks Q := x_iload_n (gcl_m d) (gopt (e := (.iload_n 3, 1, 0, 0, 0)) gt205 rfl) rfl rfl
set_option maxRecDepth 100000 in
theorem u205_184 : gR (gcl d) X 205 184 [l0, l1, l2, l3] st sh M kc ks Q = gR (gcl d) X 205 185 [l0, l1, l2, l3] (.int (nI 2) :: st) sh M kc ks Q := x_iconst (gcl_m d) (gopt (e := (.iconst 2, 1, 0, 0, 0)) gt205 rfl) (by decide) rfl
set_option maxRecDepth 100000 in
theorem u205_185 : gR (gcl d) X 205 185 [l0, l1, l2, l3] (.int y :: .int x :: st) sh M kc ks Q = gR (gcl d) X 205 186 [l0, l1, l2, l3] (.int (x + y) :: st) sh M kc ks Q := x_iadd (gcl_m d) (gopt (e := (.iadd, 1, 0, 0, 0)) gt205 rfl) rfl
set_option maxRecDepth 100000 in
theorem u205_186 : gR (gcl d) X 205 186 [l0, l1, l2, l3] (.int x :: .float fk :: st) sh M kc ks Q = (vp_in x (gro 205 X fk).1 ∧ gR (gcl d) X 205 187 [l0, l1, l2, l3] (.int ((gro 205 X fk).2 x.toNatClampNeg) :: st) sh M kc ks Q) := x_iaro (gcl_m d) (gopt (e := (.iaload, 1, 0, 0, 0)) gt205 rfl) rfl
set_option maxRecDepth 100000 in
theorem u205_187 : gR (gcl d) X 205 187 [some (.ref o), l1, l2, l3] st sh M kc ks Q = gR (gcl d) X 205 188 [some (.ref o), l1, l2, l3] (.ref o :: st) sh M kc ks Q := x_aload_n (gcl_m d) (gopt (e := (.aload_n 0, 1, 0, 0, 0)) gt205 rfl) rfl rfl
set_option maxRecDepth 100000 in
theorem u205_187f : gR (gcl d) X 205 187 [some (.float fk), l1, l2, l3] st sh M kc ks Q = gR (gcl d) X 205 188 [some (.float fk), l1, l2, l3] (.float fk :: st) sh M kc ks Q := x_aload_nf (gcl_m d) (gopt (e := (.aload_n 0, 1, 0, 0, 0)) gt205 rfl) rfl rfl
set_option maxRecDepth 100000 in
theorem u205_188 : gR (gcl d) X 205 188 [l0, l1, l2, some (.int x)] st sh M kc ks Q = gR (gcl d) X 205 189 [l0, l1, l2, some (.int x)] (.int x :: st) sh M kc ks Q := x_iload_n (gcl_m d) (gopt (e := (.iload_n 3, 1, 0, 0, 0)) gt205 rfl) rfl rfl
set_option maxRecDepth 100000 in
theorem u205_189 : gR (gcl d) X 205 189 [l0, l1, l2, l3] st sh M kc ks Q = gR (gcl d) X 205 190 [l0, l1, l2, l3] (.int (nI 3) :: st) sh M kc ks Q := x_iconst (gcl_m d) (gopt (e := (.iconst 3, 1, 0, 0, 0)) gt205 rfl) (by decide) rfl
set_option maxRecDepth 100000 in
theorem u205_190 : gR (gcl d) X 205 190 [l0, l1, l2, l3] (.int y :: .int x :: st) sh M kc ks Q = gR (gcl d) X 205 191 [l0, l1, l2, l3] (.int (x + y) :: st) sh M kc ks Q := x_iadd (gcl_m d) (gopt (e := (.iadd, 1, 0, 0, 0)) gt205 rfl) rfl
set_option maxRecDepth 100000 in
theorem u205_191 : gR (gcl d) X 205 191 [l0, l1, l2, l3] (.int x :: .float fk :: st) sh M kc ks Q = (vp_in x (gro 205 X fk).1 ∧ gR (gcl d) X 205 192 [l0, l1, l2, l3] (.int ((gro 205 X fk).2 x.toNatClampNeg) :: st) sh M kc ks Q) := x_iaro (gcl_m d) (gopt (e := (.iaload, 1, 0, 0, 0)) gt205 rfl) rfl
set_option maxRecDepth 100000 in
theorem u205_192 : gR (gcl d) X 205 192 [l0, l1, l2, l3] (v3 :: v2 :: v1 :: .ref o :: st) sh M kc ks Q = ((gci sh o = some 6 ∧ st.length ≤ 4 ∧ gro1 205 kc ks 0 0) ∧ gcl d 75 [.ref o, v1, v2, v3] sh M fun v sh2 M2 => gR (gcl d) X 205 195 [l0, l1, l2, l3] (v ++ st) sh2 M2 kc ks Q) := x_virtk (gcl_m d) (gopt (e := (.invokevirtual 13, 3, 75, 3, 0)) gt205 rfl) rfl rfl rfl rfl rfl
set_option maxRecDepth 100000 in
theorem u205_195 : gR (gcl d) X 205 195 [l0, l1, some (.ref o), l3] st sh M kc ks Q = gR (gcl d) X 205 196 [l0, l1, some (.ref o), l3] (.ref o :: st) sh M kc ks Q := x_aload_n (gcl_m d) (gopt (e := (.aload_n 2, 1, 0, 0, 0)) gt205 rfl) rfl rfl
set_option maxRecDepth 100000 in
theorem u205_195f : gR (gcl d) X 205 195 [l0, l1, some (.float fk), l3] st sh M kc ks Q = gR (gcl d) X 205 196 [l0, l1, some (.float fk), l3] (.float fk :: st) sh M kc ks Q := x_aload_nf (gcl_m d) (gopt (e := (.aload_n 2, 1, 0, 0, 0)) gt205 rfl) rfl rfl
set_option maxRecDepth 100000 in
theorem u205_196 : gR (gcl d) X 205 196 [some (.ref o), l1, l2, l3] st sh M kc ks Q = gR (gcl d) X 205 197 [some (.ref o), l1, l2, l3] (.ref o :: st) sh M kc ks Q := x_aload_n (gcl_m d) (gopt (e := (.aload_n 0, 1, 0, 0, 0)) gt205 rfl) rfl rfl
set_option maxRecDepth 100000 in
theorem u205_196f : gR (gcl d) X 205 196 [some (.float fk), l1, l2, l3] st sh M kc ks Q = gR (gcl d) X 205 197 [some (.float fk), l1, l2, l3] (.float fk :: st) sh M kc ks Q := x_aload_nf (gcl_m d) (gopt (e := (.aload_n 0, 1, 0, 0, 0)) gt205 rfl) rfl rfl
set_option maxRecDepth 100000 in
theorem u205_197 : gR (gcl d) X 205 197 [l0, l1, l2, some (.int x)] st sh M kc ks Q = gR (gcl d) X 205 198 [l0, l1, l2, some (.int x)] (.int x :: st) sh M kc ks Q := x_iload_n (gcl_m d) (gopt (e := (.iload_n 3, 1, 0, 0, 0)) gt205 rfl) rfl rfl
set_option maxRecDepth 100000 in
theorem u205_198 : gR (gcl d) X 205 198 [l0, l1, l2, l3] st sh M kc ks Q = gR (gcl d) X 205 199 [l0, l1, l2, l3] (.int (nI 1) :: st) sh M kc ks Q := x_iconst (gcl_m d) (gopt (e := (.iconst 1, 1, 0, 0, 0)) gt205 rfl) (by decide) rfl
set_option maxRecDepth 100000 in
theorem u205_199 : gR (gcl d) X 205 199 [l0, l1, l2, l3] (.int y :: .int x :: st) sh M kc ks Q = gR (gcl d) X 205 200 [l0, l1, l2, l3] (.int (x + y) :: st) sh M kc ks Q := x_iadd (gcl_m d) (gopt (e := (.iadd, 1, 0, 0, 0)) gt205 rfl) rfl
set_option maxRecDepth 100000 in
theorem u205_200 : gR (gcl d) X 205 200 [l0, l1, l2, l3] (.int x :: .float fk :: st) sh M kc ks Q = (vp_in x (gro 205 X fk).1 ∧ gR (gcl d) X 205 201 [l0, l1, l2, l3] (.int ((gro 205 X fk).2 x.toNatClampNeg) :: st) sh M kc ks Q) := x_iaro (gcl_m d) (gopt (e := (.iaload, 1, 0, 0, 0)) gt205 rfl) rfl
set_option maxRecDepth 100000 in
theorem u205_201 : gR (gcl d) X 205 201 [some (.ref o), l1, l2, l3] st sh M kc ks Q = gR (gcl d) X 205 202 [some (.ref o), l1, l2, l3] (.ref o :: st) sh M kc ks Q := x_aload_n (gcl_m d) (gopt (e := (.aload_n 0, 1, 0, 0, 0)) gt205 rfl) rfl rfl
set_option maxRecDepth 100000 in
theorem u205_201f : gR (gcl d) X 205 201 [some (.float fk), l1, l2, l3] st sh M kc ks Q = gR (gcl d) X 205 202 [some (.float fk), l1, l2, l3] (.float fk :: st) sh M kc ks Q := x_aload_nf (gcl_m d) (gopt (e := (.aload_n 0, 1, 0, 0, 0)) gt205 rfl) rfl rfl
set_option maxRecDepth 100000 in
theorem u205_202 : gR (gcl d) X 205 202 [l0, l1, l2, some (.int x)] st sh M kc ks Q = gR (gcl d) X 205 203 [l0, l1, l2, some (.int x)] (.int x :: st) sh M kc ks Q := x_iload_n (gcl_m d) (gopt (e := (.iload_n 3, 1, 0, 0, 0)) gt205 rfl) rfl rfl
set_option maxRecDepth 100000 in
theorem u205_203 : gR (gcl d) X 205 203 [l0, l1, l2, l3] st sh M kc ks Q = gR (gcl d) X 205 204 [l0, l1, l2, l3] (.int (nI 2) :: st) sh M kc ks Q := x_iconst (gcl_m d) (gopt (e := (.iconst 2, 1, 0, 0, 0)) gt205 rfl) (by decide) rfl
set_option maxRecDepth 100000 in
theorem u205_204 : gR (gcl d) X 205 204 [l0, l1, l2, l3] (.int y :: .int x :: st) sh M kc ks Q = gR (gcl d) X 205 205 [l0, l1, l2, l3] (.int (x + y) :: st) sh M kc ks Q := x_iadd (gcl_m d) (gopt (e := (.iadd, 1, 0, 0, 0)) gt205 rfl) rfl
set_option maxRecDepth 100000 in
theorem u205_205 : gR (gcl d) X 205 205 [l0, l1, l2, l3] (.int x :: .float fk :: st) sh M kc ks Q = (vp_in x (gro 205 X fk).1 ∧ gR (gcl d) X 205 206 [l0, l1, l2, l3] (.int ((gro 205 X fk).2 x.toNatClampNeg) :: st) sh M kc ks Q) := x_iaro (gcl_m d) (gopt (e := (.iaload, 1, 0, 0, 0)) gt205 rfl) rfl
set_option maxRecDepth 100000 in
theorem u205_206 : gR (gcl d) X 205 206 [some (.ref o), l1, l2, l3] st sh M kc ks Q = gR (gcl d) X 205 207 [some (.ref o), l1, l2, l3] (.ref o :: st) sh M kc ks Q := x_aload_n (gcl_m d) (gopt (e := (.aload_n 0, 1, 0, 0, 0)) gt205 rfl) rfl rfl
set_option maxRecDepth 100000 in
theorem u205_206f : gR (gcl d) X 205 206 [some (.float fk), l1, l2, l3] st sh M kc ks Q = gR (gcl d) X 205 207 [some (.float fk), l1, l2, l3] (.float fk :: st) sh M kc ks Q := x_aload_nf (gcl_m d) (gopt (e := (.aload_n 0, 1, 0, 0, 0)) gt205 rfl) rfl rfl
set_option maxRecDepth 100000 in
theorem u205_207 : gR (gcl d) X 205 207 [l0, l1, l2, some (.int x)] st sh M kc ks Q = gR (gcl d) X 205 208 [l0, l1, l2, some (.int x)] (.int x :: st) sh M kc ks Q := x_iload_n (gcl_m d) (gopt (e := (.iload_n 3, 1, 0, 0, 0)) gt205 rfl) rfl rfl
set_option maxRecDepth 100000 in
theorem u205_208 : gR (gcl d) X 205 208 [l0, l1, l2, l3] st sh M kc ks Q = gR (gcl d) X 205 209 [l0, l1, l2, l3] (.int (nI 3) :: st) sh M kc ks Q := x_iconst (gcl_m d) (gopt (e := (.iconst 3, 1, 0, 0, 0)) gt205 rfl) (by decide) rfl
set_option maxRecDepth 100000 in
theorem u205_209 : gR (gcl d) X 205 209 [l0, l1, l2, l3] (.int y :: .int x :: st) sh M kc ks Q = gR (gcl d) X 205 210 [l0, l1, l2, l3] (.int (x + y) :: st) sh M kc ks Q := x_iadd (gcl_m d) (gopt (e := (.iadd, 1, 0, 0, 0)) gt205 rfl) rfl
set_option maxRecDepth 100000 in
theorem u205_210 : gR (gcl d) X 205 210 [l0, l1, l2, l3] (.int x :: .float fk :: st) sh M kc ks Q = (vp_in x (gro 205 X fk).1 ∧ gR (gcl d) X 205 211 [l0, l1, l2, l3] (.int ((gro 205 X fk).2 x.toNatClampNeg) :: st) sh M kc ks Q) := x_iaro (gcl_m d) (gopt (e := (.iaload, 1, 0, 0, 0)) gt205 rfl) rfl
set_option maxRecDepth 100000 in
theorem u205_211 : gR (gcl d) X 205 211 [l0, l1, l2, l3] (v3 :: v2 :: v1 :: .ref o :: st) sh M kc ks Q = ((gci sh o = some 7 ∧ st.length ≤ 4 ∧ gro1 205 kc ks 0 0) ∧ gcl d 129 [.ref o, v1, v2, v3] sh M fun v sh2 M2 => gR (gcl d) X 205 214 [l0, l1, l2, l3] (v ++ st) sh2 M2 kc ks Q) := x_virtk (gcl_m d) (gopt (e := (.invokevirtual 17, 3, 129, 3, 0)) gt205 rfl) rfl rfl rfl rfl rfl
set_option maxRecDepth 100000 in
theorem u205_214 : gR (gcl d) X 205 214 [l0, l1, l2, l3] (.int y :: .int x :: st) sh M kc ks Q = ((x = y → gR (gcl d) X 205 1222 [l0, l1, l2, l3] st sh M kc ks Q) ∧ (¬ x = y → gR (gcl d) X 205 217 [l0, l1, l2, l3] st sh M kc ks Q)) := x_icmp_eq (gcl_m d) (gopt (e := (.if_icmp .eq 1008, 3, 1222, 0, 0)) gt205 rfl) rfl
set_option maxRecDepth 100000 in
theorem u205_217 : gR (gcl d) X 205 217 [l0, l1, l2, l3] st sh M kc ks Q = gR (gcl d) X 205 218 [l0, l1, l2, l3] (.int (nI 0) :: st) sh M kc ks Q := x_iconst (gcl_m d) (gopt (e := (.iconst 0, 1, 0, 0, 0)) gt205 rfl) (by decide) rfl
set_option maxRecDepth 100000 in
theorem u205_218 : gR (gcl d) X 205 218 [l0, l1, l2, l3] [.int (nI 1)] sh M kc ks Q = (gfin 205 kc ks ∧ Q [.int (nI 1)] sh M) := x_retk (gcl_m d) (gopt (e := (.ireturn, 1, 0, 0, 0)) gt205 rfl) (Or.inr ⟨rfl, Or.inr (by decide)⟩)
set_option maxRecDepth 100000 in
theorem u205_219 : gR (gcl d) X 205 219 [l0, some (.ref o), l2, l3] st sh M kc ks Q = gR (gcl d) X 205 220 [l0, some (.ref o), l2, l3] (.ref o :: st) sh M kc ks Q := x_aload_n (gcl_m d) (gopt (e := (.aload_n 1, 1, 0, 0, 0)) gt205 rfl) rfl rfl
set_option maxRecDepth 100000 in
theorem u205_219f : gR (gcl d) X 205 219 [l0, some (.float fk), l2, l3] st sh M kc ks Q = gR (gcl d) X 205 220 [l0, some (.float fk), l2, l3] (.float fk :: st) sh M kc ks Q := x_aload_nf (gcl_m d) (gopt (e := (.aload_n 1, 1, 0, 0, 0)) gt205 rfl) rfl rfl
set_option maxRecDepth 100000 in
theorem u205_220 : gR (gcl d) X 205 220 [some (.ref o), l1, l2, l3] st sh M kc ks Q = gR (gcl d) X 205 221 [some (.ref o), l1, l2, l3] (.ref o :: st) sh M kc ks Q := x_aload_n (gcl_m d) (gopt (e := (.aload_n 0, 1, 0, 0, 0)) gt205 rfl) rfl rfl
set_option maxRecDepth 100000 in
theorem u205_220f : gR (gcl d) X 205 220 [some (.float fk), l1, l2, l3] st sh M kc ks Q = gR (gcl d) X 205 221 [some (.float fk), l1, l2, l3] (.float fk :: st) sh M kc ks Q := x_aload_nf (gcl_m d) (gopt (e := (.aload_n 0, 1, 0, 0, 0)) gt205 rfl) rfl rfl
set_option maxRecDepth 100000 in
theorem u205_221 : gR (gcl d) X 205 221 [l0, l1, l2, some (.int x)] st sh M kc ks Q = gR (gcl d) X 205 222 [l0, l1, l2, some (.int x)] (.int x :: st) sh M kc ks Q := x_iload_n (gcl_m d) (gopt (e := (.iload_n 3, 1, 0, 0, 0)) gt205 rfl) rfl rfl
set_option maxRecDepth 100000 in
theorem u205_222 : gR (gcl d) X 205 222 [l0, l1, l2, l3] st sh M kc ks Q = gR (gcl d) X 205 223 [l0, l1, l2, l3] (.int (nI 1) :: st) sh M kc ks Q := x_iconst (gcl_m d) (gopt (e := (.iconst 1, 1, 0, 0, 0)) gt205 rfl) (by decide) rfl
set_option maxRecDepth 100000 in
theorem u205_223 : gR (gcl d) X 205 223 [l0, l1, l2, l3] (.int y :: .int x :: st) sh M kc ks Q = gR (gcl d) X 205 224 [l0, l1, l2, l3] (.int (x + y) :: st) sh M kc ks Q := x_iadd (gcl_m d) (gopt (e := (.iadd, 1, 0, 0, 0)) gt205 rfl) rfl
set_option maxRecDepth 100000 in
theorem u205_224 : gR (gcl d) X 205 224 [l0, l1, l2, l3] (.int x :: .float fk :: st) sh M kc ks Q = (vp_in x (gro 205 X fk).1 ∧ gR (gcl d) X 205 225 [l0, l1, l2, l3] (.int ((gro 205 X fk).2 x.toNatClampNeg) :: st) sh M kc ks Q) := x_iaro (gcl_m d) (gopt (e := (.iaload, 1, 0, 0, 0)) gt205 rfl) rfl
set_option maxRecDepth 100000 in
theorem u205_225 : gR (gcl d) X 205 225 [some (.ref o), l1, l2, l3] st sh M kc ks Q = gR (gcl d) X 205 226 [some (.ref o), l1, l2, l3] (.ref o :: st) sh M kc ks Q := x_aload_n (gcl_m d) (gopt (e := (.aload_n 0, 1, 0, 0, 0)) gt205 rfl) rfl rfl
set_option maxRecDepth 100000 in
theorem u205_225f : gR (gcl d) X 205 225 [some (.float fk), l1, l2, l3] st sh M kc ks Q = gR (gcl d) X 205 226 [some (.float fk), l1, l2, l3] (.float fk :: st) sh M kc ks Q := x_aload_nf (gcl_m d) (gopt (e := (.aload_n 0, 1, 0, 0, 0)) gt205 rfl) rfl rfl
set_option maxRecDepth 100000 in
theorem u205_226 : gR (gcl d) X 205 226 [l0, l1, l2, some (.int x)] st sh M kc ks Q = gR (gcl d) X 205 227 [l0, l1, l2, some (.int x)] (.int x :: st) sh M kc ks Q := x_iload_n (gcl_m d) (gopt (e := (.iload_n 3, 1, 0, 0, 0)) gt205 rfl) rfl rfl
set_option maxRecDepth 100000 in
theorem u205_227 : gR (gcl d) X 205 227 [l0, l1, l2, l3] st sh M kc ks Q = gR (gcl d) X 205 228 [l0, l1, l2, l3] (.int (nI 2) :: st) sh M kc ks Q := x_iconst (gcl_m d) (gopt (e := (.iconst 2, 1, 0, 0, 0)) gt205 rfl) (by decide) rfl
set_option maxRecDepth 100000 in
theorem u205_228 : gR (gcl d) X 205 228 [l0, l1, l2, l3] (.int y :: .int x :: st) sh M kc ks Q = gR (gcl d) X 205 229 [l0, l1, l2, l3] (.int (x + y) :: st) sh M kc ks Q := x_iadd (gcl_m d) (gopt (e := (.iadd, 1, 0, 0, 0)) gt205 rfl) rfl
set_option maxRecDepth 100000 in
theorem u205_229 : gR (gcl d) X 205 229 [l0, l1, l2, l3] (.int x :: .float fk :: st) sh M kc ks Q = (vp_in x (gro 205 X fk).1 ∧ gR (gcl d) X 205 230 [l0, l1, l2, l3] (.int ((gro 205 X fk).2 x.toNatClampNeg) :: st) sh M kc ks Q) := x_iaro (gcl_m d) (gopt (e := (.iaload, 1, 0, 0, 0)) gt205 rfl) rfl
set_option maxRecDepth 100000 in
theorem u205_230 : gR (gcl d) X 205 230 [some (.ref o), l1, l2, l3] st sh M kc ks Q = gR (gcl d) X 205 231 [some (.ref o), l1, l2, l3] (.ref o :: st) sh M kc ks Q := x_aload_n (gcl_m d) (gopt (e := (.aload_n 0, 1, 0, 0, 0)) gt205 rfl) rfl rfl
set_option maxRecDepth 100000 in
theorem u205_230f : gR (gcl d) X 205 230 [some (.float fk), l1, l2, l3] st sh M kc ks Q = gR (gcl d) X 205 231 [some (.float fk), l1, l2, l3] (.float fk :: st) sh M kc ks Q := x_aload_nf (gcl_m d) (gopt (e := (.aload_n 0, 1, 0, 0, 0)) gt205 rfl) rfl rfl
set_option maxRecDepth 100000 in
theorem u205_231 : gR (gcl d) X 205 231 [l0, l1, l2, some (.int x)] st sh M kc ks Q = gR (gcl d) X 205 232 [l0, l1, l2, some (.int x)] (.int x :: st) sh M kc ks Q := x_iload_n (gcl_m d) (gopt (e := (.iload_n 3, 1, 0, 0, 0)) gt205 rfl) rfl rfl
set_option maxRecDepth 100000 in
theorem u205_232 : gR (gcl d) X 205 232 [l0, l1, l2, l3] st sh M kc ks Q = gR (gcl d) X 205 233 [l0, l1, l2, l3] (.int (nI 3) :: st) sh M kc ks Q := x_iconst (gcl_m d) (gopt (e := (.iconst 3, 1, 0, 0, 0)) gt205 rfl) (by decide) rfl
set_option maxRecDepth 100000 in
theorem u205_233 : gR (gcl d) X 205 233 [l0, l1, l2, l3] (.int y :: .int x :: st) sh M kc ks Q = gR (gcl d) X 205 234 [l0, l1, l2, l3] (.int (x + y) :: st) sh M kc ks Q := x_iadd (gcl_m d) (gopt (e := (.iadd, 1, 0, 0, 0)) gt205 rfl) rfl
set_option maxRecDepth 100000 in
theorem u205_234 : gR (gcl d) X 205 234 [l0, l1, l2, l3] (.int x :: .float fk :: st) sh M kc ks Q = (vp_in x (gro 205 X fk).1 ∧ gR (gcl d) X 205 235 [l0, l1, l2, l3] (.int ((gro 205 X fk).2 x.toNatClampNeg) :: st) sh M kc ks Q) := x_iaro (gcl_m d) (gopt (e := (.iaload, 1, 0, 0, 0)) gt205 rfl) rfl
set_option maxRecDepth 100000 in
theorem u205_235 : gR (gcl d) X 205 235 [l0, l1, l2, l3] (v3 :: v2 :: v1 :: .ref o :: st) sh M kc ks Q = ((gci sh o = some 6 ∧ st.length ≤ 4 ∧ gro1 205 kc ks 0 0) ∧ gcl d 76 [.ref o, v1, v2, v3] sh M fun v sh2 M2 => gR (gcl d) X 205 238 [l0, l1, l2, l3] (v ++ st) sh2 M2 kc ks Q) := x_virtk (gcl_m d) (gopt (e := (.invokevirtual 18, 3, 76, 3, 0)) gt205 rfl) rfl rfl rfl rfl rfl
set_option maxRecDepth 100000 in
theorem u205_238 : gR (gcl d) X 205 238 [l0, l1, some (.ref o), l3] st sh M kc ks Q = gR (gcl d) X 205 239 [l0, l1, some (.ref o), l3] (.ref o :: st) sh M kc ks Q := x_aload_n (gcl_m d) (gopt (e := (.aload_n 2, 1, 0, 0, 0)) gt205 rfl) rfl rfl
set_option maxRecDepth 100000 in
theorem u205_238f : gR (gcl d) X 205 238 [l0, l1, some (.float fk), l3] st sh M kc ks Q = gR (gcl d) X 205 239 [l0, l1, some (.float fk), l3] (.float fk :: st) sh M kc ks Q := x_aload_nf (gcl_m d) (gopt (e := (.aload_n 2, 1, 0, 0, 0)) gt205 rfl) rfl rfl
set_option maxRecDepth 100000 in
theorem u205_239 : gR (gcl d) X 205 239 [some (.ref o), l1, l2, l3] st sh M kc ks Q = gR (gcl d) X 205 240 [some (.ref o), l1, l2, l3] (.ref o :: st) sh M kc ks Q := x_aload_n (gcl_m d) (gopt (e := (.aload_n 0, 1, 0, 0, 0)) gt205 rfl) rfl rfl
set_option maxRecDepth 100000 in
theorem u205_239f : gR (gcl d) X 205 239 [some (.float fk), l1, l2, l3] st sh M kc ks Q = gR (gcl d) X 205 240 [some (.float fk), l1, l2, l3] (.float fk :: st) sh M kc ks Q := x_aload_nf (gcl_m d) (gopt (e := (.aload_n 0, 1, 0, 0, 0)) gt205 rfl) rfl rfl
set_option maxRecDepth 100000 in
theorem u205_240 : gR (gcl d) X 205 240 [l0, l1, l2, some (.int x)] st sh M kc ks Q = gR (gcl d) X 205 241 [l0, l1, l2, some (.int x)] (.int x :: st) sh M kc ks Q := x_iload_n (gcl_m d) (gopt (e := (.iload_n 3, 1, 0, 0, 0)) gt205 rfl) rfl rfl
set_option maxRecDepth 100000 in
theorem u205_241 : gR (gcl d) X 205 241 [l0, l1, l2, l3] st sh M kc ks Q = gR (gcl d) X 205 242 [l0, l1, l2, l3] (.int (nI 1) :: st) sh M kc ks Q := x_iconst (gcl_m d) (gopt (e := (.iconst 1, 1, 0, 0, 0)) gt205 rfl) (by decide) rfl
set_option maxRecDepth 100000 in
theorem u205_242 : gR (gcl d) X 205 242 [l0, l1, l2, l3] (.int y :: .int x :: st) sh M kc ks Q = gR (gcl d) X 205 243 [l0, l1, l2, l3] (.int (x + y) :: st) sh M kc ks Q := x_iadd (gcl_m d) (gopt (e := (.iadd, 1, 0, 0, 0)) gt205 rfl) rfl
set_option maxRecDepth 100000 in
theorem u205_243 : gR (gcl d) X 205 243 [l0, l1, l2, l3] (.int x :: .float fk :: st) sh M kc ks Q = (vp_in x (gro 205 X fk).1 ∧ gR (gcl d) X 205 244 [l0, l1, l2, l3] (.int ((gro 205 X fk).2 x.toNatClampNeg) :: st) sh M kc ks Q) := x_iaro (gcl_m d) (gopt (e := (.iaload, 1, 0, 0, 0)) gt205 rfl) rfl
set_option maxRecDepth 100000 in
theorem u205_244 : gR (gcl d) X 205 244 [some (.ref o), l1, l2, l3] st sh M kc ks Q = gR (gcl d) X 205 245 [some (.ref o), l1, l2, l3] (.ref o :: st) sh M kc ks Q := x_aload_n (gcl_m d) (gopt (e := (.aload_n 0, 1, 0, 0, 0)) gt205 rfl) rfl rfl
set_option maxRecDepth 100000 in
theorem u205_244f : gR (gcl d) X 205 244 [some (.float fk), l1, l2, l3] st sh M kc ks Q = gR (gcl d) X 205 245 [some (.float fk), l1, l2, l3] (.float fk :: st) sh M kc ks Q := x_aload_nf (gcl_m d) (gopt (e := (.aload_n 0, 1, 0, 0, 0)) gt205 rfl) rfl rfl
set_option maxRecDepth 100000 in
theorem u205_245 : gR (gcl d) X 205 245 [l0, l1, l2, some (.int x)] st sh M kc ks Q = gR (gcl d) X 205 246 [l0, l1, l2, some (.int x)] (.int x :: st) sh M kc ks Q := x_iload_n (gcl_m d) (gopt (e := (.iload_n 3, 1, 0, 0, 0)) gt205 rfl) rfl rfl
set_option maxRecDepth 100000 in
theorem u205_246 : gR (gcl d) X 205 246 [l0, l1, l2, l3] st sh M kc ks Q = gR (gcl d) X 205 247 [l0, l1, l2, l3] (.int (nI 2) :: st) sh M kc ks Q := x_iconst (gcl_m d) (gopt (e := (.iconst 2, 1, 0, 0, 0)) gt205 rfl) (by decide) rfl
set_option maxRecDepth 100000 in
theorem u205_247 : gR (gcl d) X 205 247 [l0, l1, l2, l3] (.int y :: .int x :: st) sh M kc ks Q = gR (gcl d) X 205 248 [l0, l1, l2, l3] (.int (x + y) :: st) sh M kc ks Q := x_iadd (gcl_m d) (gopt (e := (.iadd, 1, 0, 0, 0)) gt205 rfl) rfl
set_option maxRecDepth 100000 in
theorem u205_248 : gR (gcl d) X 205 248 [l0, l1, l2, l3] (.int x :: .float fk :: st) sh M kc ks Q = (vp_in x (gro 205 X fk).1 ∧ gR (gcl d) X 205 249 [l0, l1, l2, l3] (.int ((gro 205 X fk).2 x.toNatClampNeg) :: st) sh M kc ks Q) := x_iaro (gcl_m d) (gopt (e := (.iaload, 1, 0, 0, 0)) gt205 rfl) rfl
set_option maxRecDepth 100000 in
theorem u205_249 : gR (gcl d) X 205 249 [some (.ref o), l1, l2, l3] st sh M kc ks Q = gR (gcl d) X 205 250 [some (.ref o), l1, l2, l3] (.ref o :: st) sh M kc ks Q := x_aload_n (gcl_m d) (gopt (e := (.aload_n 0, 1, 0, 0, 0)) gt205 rfl) rfl rfl
set_option maxRecDepth 100000 in
theorem u205_249f : gR (gcl d) X 205 249 [some (.float fk), l1, l2, l3] st sh M kc ks Q = gR (gcl d) X 205 250 [some (.float fk), l1, l2, l3] (.float fk :: st) sh M kc ks Q := x_aload_nf (gcl_m d) (gopt (e := (.aload_n 0, 1, 0, 0, 0)) gt205 rfl) rfl rfl
set_option maxRecDepth 100000 in
theorem u205_250 : gR (gcl d) X 205 250 [l0, l1, l2, some (.int x)] st sh M kc ks Q = gR (gcl d) X 205 251 [l0, l1, l2, some (.int x)] (.int x :: st) sh M kc ks Q := x_iload_n (gcl_m d) (gopt (e := (.iload_n 3, 1, 0, 0, 0)) gt205 rfl) rfl rfl
set_option maxRecDepth 100000 in
theorem u205_251 : gR (gcl d) X 205 251 [l0, l1, l2, l3] st sh M kc ks Q = gR (gcl d) X 205 252 [l0, l1, l2, l3] (.int (nI 3) :: st) sh M kc ks Q := x_iconst (gcl_m d) (gopt (e := (.iconst 3, 1, 0, 0, 0)) gt205 rfl) (by decide) rfl
set_option maxRecDepth 100000 in
theorem u205_252 : gR (gcl d) X 205 252 [l0, l1, l2, l3] (.int y :: .int x :: st) sh M kc ks Q = gR (gcl d) X 205 253 [l0, l1, l2, l3] (.int (x + y) :: st) sh M kc ks Q := x_iadd (gcl_m d) (gopt (e := (.iadd, 1, 0, 0, 0)) gt205 rfl) rfl
set_option maxRecDepth 100000 in
theorem u205_253 : gR (gcl d) X 205 253 [l0, l1, l2, l3] (.int x :: .float fk :: st) sh M kc ks Q = (vp_in x (gro 205 X fk).1 ∧ gR (gcl d) X 205 254 [l0, l1, l2, l3] (.int ((gro 205 X fk).2 x.toNatClampNeg) :: st) sh M kc ks Q) := x_iaro (gcl_m d) (gopt (e := (.iaload, 1, 0, 0, 0)) gt205 rfl) rfl
set_option maxRecDepth 100000 in
theorem u205_254 : gR (gcl d) X 205 254 [l0, l1, l2, l3] (v3 :: v2 :: v1 :: .ref o :: st) sh M kc ks Q = ((gci sh o = some 7 ∧ st.length ≤ 4 ∧ gro1 205 kc ks 0 0) ∧ gcl d 131 [.ref o, v1, v2, v3] sh M fun v sh2 M2 => gR (gcl d) X 205 257 [l0, l1, l2, l3] (v ++ st) sh2 M2 kc ks Q) := x_virtk (gcl_m d) (gopt (e := (.invokevirtual 21, 3, 131, 3, 0)) gt205 rfl) rfl rfl rfl rfl rfl
set_option maxRecDepth 100000 in
theorem u205_257 : gR (gcl d) X 205 257 [l0, l1, l2, l3] (.int y :: .int x :: st) sh M kc ks Q = ((x = y → gR (gcl d) X 205 1222 [l0, l1, l2, l3] st sh M kc ks Q) ∧ (¬ x = y → gR (gcl d) X 205 260 [l0, l1, l2, l3] st sh M kc ks Q)) := x_icmp_eq (gcl_m d) (gopt (e := (.if_icmp .eq 965, 3, 1222, 0, 0)) gt205 rfl) rfl
set_option maxRecDepth 100000 in
theorem u205_260 : gR (gcl d) X 205 260 [l0, l1, l2, l3] st sh M kc ks Q = gR (gcl d) X 205 261 [l0, l1, l2, l3] (.int (nI 0) :: st) sh M kc ks Q := x_iconst (gcl_m d) (gopt (e := (.iconst 0, 1, 0, 0, 0)) gt205 rfl) (by decide) rfl
set_option maxRecDepth 100000 in
theorem u205_261 : gR (gcl d) X 205 261 [l0, l1, l2, l3] [.int (nI 1)] sh M kc ks Q = (gfin 205 kc ks ∧ Q [.int (nI 1)] sh M) := x_retk (gcl_m d) (gopt (e := (.ireturn, 1, 0, 0, 0)) gt205 rfl) (Or.inr ⟨rfl, Or.inr (by decide)⟩)
set_option maxRecDepth 100000 in
theorem u205_262 : gR (gcl d) X 205 262 [l0, some (.ref o), l2, l3] st sh M kc ks Q = gR (gcl d) X 205 263 [l0, some (.ref o), l2, l3] (.ref o :: st) sh M kc ks Q := x_aload_n (gcl_m d) (gopt (e := (.aload_n 1, 1, 0, 0, 0)) gt205 rfl) rfl rfl
set_option maxRecDepth 100000 in
theorem u205_262f : gR (gcl d) X 205 262 [l0, some (.float fk), l2, l3] st sh M kc ks Q = gR (gcl d) X 205 263 [l0, some (.float fk), l2, l3] (.float fk :: st) sh M kc ks Q := x_aload_nf (gcl_m d) (gopt (e := (.aload_n 1, 1, 0, 0, 0)) gt205 rfl) rfl rfl
set_option maxRecDepth 100000 in
theorem u205_263 : gR (gcl d) X 205 263 [some (.ref o), l1, l2, l3] st sh M kc ks Q = gR (gcl d) X 205 264 [some (.ref o), l1, l2, l3] (.ref o :: st) sh M kc ks Q := x_aload_n (gcl_m d) (gopt (e := (.aload_n 0, 1, 0, 0, 0)) gt205 rfl) rfl rfl
set_option maxRecDepth 100000 in
theorem u205_263f : gR (gcl d) X 205 263 [some (.float fk), l1, l2, l3] st sh M kc ks Q = gR (gcl d) X 205 264 [some (.float fk), l1, l2, l3] (.float fk :: st) sh M kc ks Q := x_aload_nf (gcl_m d) (gopt (e := (.aload_n 0, 1, 0, 0, 0)) gt205 rfl) rfl rfl
set_option maxRecDepth 100000 in
theorem u205_264 : gR (gcl d) X 205 264 [l0, l1, l2, some (.int x)] st sh M kc ks Q = gR (gcl d) X 205 265 [l0, l1, l2, some (.int x)] (.int x :: st) sh M kc ks Q := x_iload_n (gcl_m d) (gopt (e := (.iload_n 3, 1, 0, 0, 0)) gt205 rfl) rfl rfl
set_option maxRecDepth 100000 in
theorem u205_265 : gR (gcl d) X 205 265 [l0, l1, l2, l3] st sh M kc ks Q = gR (gcl d) X 205 266 [l0, l1, l2, l3] (.int (nI 1) :: st) sh M kc ks Q := x_iconst (gcl_m d) (gopt (e := (.iconst 1, 1, 0, 0, 0)) gt205 rfl) (by decide) rfl
set_option maxRecDepth 100000 in
theorem u205_266 : gR (gcl d) X 205 266 [l0, l1, l2, l3] (.int y :: .int x :: st) sh M kc ks Q = gR (gcl d) X 205 267 [l0, l1, l2, l3] (.int (x + y) :: st) sh M kc ks Q := x_iadd (gcl_m d) (gopt (e := (.iadd, 1, 0, 0, 0)) gt205 rfl) rfl
set_option maxRecDepth 100000 in
theorem u205_267 : gR (gcl d) X 205 267 [l0, l1, l2, l3] (.int x :: .float fk :: st) sh M kc ks Q = (vp_in x (gro 205 X fk).1 ∧ gR (gcl d) X 205 268 [l0, l1, l2, l3] (.int ((gro 205 X fk).2 x.toNatClampNeg) :: st) sh M kc ks Q) := x_iaro (gcl_m d) (gopt (e := (.iaload, 1, 0, 0, 0)) gt205 rfl) rfl
set_option maxRecDepth 100000 in
theorem u205_268 : gR (gcl d) X 205 268 [some (.ref o), l1, l2, l3] st sh M kc ks Q = gR (gcl d) X 205 269 [some (.ref o), l1, l2, l3] (.ref o :: st) sh M kc ks Q := x_aload_n (gcl_m d) (gopt (e := (.aload_n 0, 1, 0, 0, 0)) gt205 rfl) rfl rfl
set_option maxRecDepth 100000 in
theorem u205_268f : gR (gcl d) X 205 268 [some (.float fk), l1, l2, l3] st sh M kc ks Q = gR (gcl d) X 205 269 [some (.float fk), l1, l2, l3] (.float fk :: st) sh M kc ks Q := x_aload_nf (gcl_m d) (gopt (e := (.aload_n 0, 1, 0, 0, 0)) gt205 rfl) rfl rfl
set_option maxRecDepth 100000 in
theorem u205_269 : gR (gcl d) X 205 269 [l0, l1, l2, some (.int x)] st sh M kc ks Q = gR (gcl d) X 205 270 [l0, l1, l2, some (.int x)] (.int x :: st) sh M kc ks Q := x_iload_n (gcl_m d) (gopt (e := (.iload_n 3, 1, 0, 0, 0)) gt205 rfl) rfl rfl
set_option maxRecDepth 100000 in
theorem u205_270 : gR (gcl d) X 205 270 [l0, l1, l2, l3] st sh M kc ks Q = gR (gcl d) X 205 271 [l0, l1, l2, l3] (.int (nI 2) :: st) sh M kc ks Q := x_iconst (gcl_m d) (gopt (e := (.iconst 2, 1, 0, 0, 0)) gt205 rfl) (by decide) rfl
set_option maxRecDepth 100000 in
theorem u205_271 : gR (gcl d) X 205 271 [l0, l1, l2, l3] (.int y :: .int x :: st) sh M kc ks Q = gR (gcl d) X 205 272 [l0, l1, l2, l3] (.int (x + y) :: st) sh M kc ks Q := x_iadd (gcl_m d) (gopt (e := (.iadd, 1, 0, 0, 0)) gt205 rfl) rfl
set_option maxRecDepth 100000 in
theorem u205_272 : gR (gcl d) X 205 272 [l0, l1, l2, l3] (.int x :: .float fk :: st) sh M kc ks Q = (vp_in x (gro 205 X fk).1 ∧ gR (gcl d) X 205 273 [l0, l1, l2, l3] (.int ((gro 205 X fk).2 x.toNatClampNeg) :: st) sh M kc ks Q) := x_iaro (gcl_m d) (gopt (e := (.iaload, 1, 0, 0, 0)) gt205 rfl) rfl
set_option maxRecDepth 100000 in
theorem u205_273 : gR (gcl d) X 205 273 [some (.ref o), l1, l2, l3] st sh M kc ks Q = gR (gcl d) X 205 274 [some (.ref o), l1, l2, l3] (.ref o :: st) sh M kc ks Q := x_aload_n (gcl_m d) (gopt (e := (.aload_n 0, 1, 0, 0, 0)) gt205 rfl) rfl rfl
set_option maxRecDepth 100000 in
theorem u205_273f : gR (gcl d) X 205 273 [some (.float fk), l1, l2, l3] st sh M kc ks Q = gR (gcl d) X 205 274 [some (.float fk), l1, l2, l3] (.float fk :: st) sh M kc ks Q := x_aload_nf (gcl_m d) (gopt (e := (.aload_n 0, 1, 0, 0, 0)) gt205 rfl) rfl rfl
set_option maxRecDepth 100000 in
theorem u205_274 : gR (gcl d) X 205 274 [l0, l1, l2, some (.int x)] st sh M kc ks Q = gR (gcl d) X 205 275 [l0, l1, l2, some (.int x)] (.int x :: st) sh M kc ks Q := x_iload_n (gcl_m d) (gopt (e := (.iload_n 3, 1, 0, 0, 0)) gt205 rfl) rfl rfl
set_option maxRecDepth 100000 in
theorem u205_275 : gR (gcl d) X 205 275 [l0, l1, l2, l3] st sh M kc ks Q = gR (gcl d) X 205 276 [l0, l1, l2, l3] (.int (nI 3) :: st) sh M kc ks Q := x_iconst (gcl_m d) (gopt (e := (.iconst 3, 1, 0, 0, 0)) gt205 rfl) (by decide) rfl
set_option maxRecDepth 100000 in
theorem u205_276 : gR (gcl d) X 205 276 [l0, l1, l2, l3] (.int y :: .int x :: st) sh M kc ks Q = gR (gcl d) X 205 277 [l0, l1, l2, l3] (.int (x + y) :: st) sh M kc ks Q := x_iadd (gcl_m d) (gopt (e := (.iadd, 1, 0, 0, 0)) gt205 rfl) rfl
set_option maxRecDepth 100000 in
theorem u205_277 : gR (gcl d) X 205 277 [l0, l1, l2, l3] (.int x :: .float fk :: st) sh M kc ks Q = (vp_in x (gro 205 X fk).1 ∧ gR (gcl d) X 205 278 [l0, l1, l2, l3] (.int ((gro 205 X fk).2 x.toNatClampNeg) :: st) sh M kc ks Q) := x_iaro (gcl_m d) (gopt (e := (.iaload, 1, 0, 0, 0)) gt205 rfl) rfl
set_option maxRecDepth 100000 in
theorem u205_278 : gR (gcl d) X 205 278 [some (.ref o), l1, l2, l3] st sh M kc ks Q = gR (gcl d) X 205 279 [some (.ref o), l1, l2, l3] (.ref o :: st) sh M kc ks Q := x_aload_n (gcl_m d) (gopt (e := (.aload_n 0, 1, 0, 0, 0)) gt205 rfl) rfl rfl
set_option maxRecDepth 100000 in
theorem u205_278f : gR (gcl d) X 205 278 [some (.float fk), l1, l2, l3] st sh M kc ks Q = gR (gcl d) X 205 279 [some (.float fk), l1, l2, l3] (.float fk :: st) sh M kc ks Q := x_aload_nf (gcl_m d) (gopt (e := (.aload_n 0, 1, 0, 0, 0)) gt205 rfl) rfl rfl
set_option maxRecDepth 100000 in
theorem u205_279 : gR (gcl d) X 205 279 [l0, l1, l2, some (.int x)] st sh M kc ks Q = gR (gcl d) X 205 280 [l0, l1, l2, some (.int x)] (.int x :: st) sh M kc ks Q := x_iload_n (gcl_m d) (gopt (e := (.iload_n 3, 1, 0, 0, 0)) gt205 rfl) rfl rfl
set_option maxRecDepth 100000 in
theorem u205_280 : gR (gcl d) X 205 280 [l0, l1, l2, l3] st sh M kc ks Q = gR (gcl d) X 205 281 [l0, l1, l2, l3] (.int (nI 4) :: st) sh M kc ks Q := x_iconst (gcl_m d) (gopt (e := (.iconst 4, 1, 0, 0, 0)) gt205 rfl) (by decide) rfl
set_option maxRecDepth 100000 in
theorem u205_281 : gR (gcl d) X 205 281 [l0, l1, l2, l3] (.int y :: .int x :: st) sh M kc ks Q = gR (gcl d) X 205 282 [l0, l1, l2, l3] (.int (x + y) :: st) sh M kc ks Q := x_iadd (gcl_m d) (gopt (e := (.iadd, 1, 0, 0, 0)) gt205 rfl) rfl
set_option maxRecDepth 100000 in
theorem u205_282 : gR (gcl d) X 205 282 [l0, l1, l2, l3] (.int x :: .float fk :: st) sh M kc ks Q = (vp_in x (gro 205 X fk).1 ∧ gR (gcl d) X 205 283 [l0, l1, l2, l3] (.int ((gro 205 X fk).2 x.toNatClampNeg) :: st) sh M kc ks Q) := x_iaro (gcl_m d) (gopt (e := (.iaload, 1, 0, 0, 0)) gt205 rfl) rfl
set_option maxRecDepth 100000 in
theorem u205_283 : gR (gcl d) X 205 283 [some (.ref o), l1, l2, l3] st sh M kc ks Q = gR (gcl d) X 205 284 [some (.ref o), l1, l2, l3] (.ref o :: st) sh M kc ks Q := x_aload_n (gcl_m d) (gopt (e := (.aload_n 0, 1, 0, 0, 0)) gt205 rfl) rfl rfl
set_option maxRecDepth 100000 in
theorem u205_283f : gR (gcl d) X 205 283 [some (.float fk), l1, l2, l3] st sh M kc ks Q = gR (gcl d) X 205 284 [some (.float fk), l1, l2, l3] (.float fk :: st) sh M kc ks Q := x_aload_nf (gcl_m d) (gopt (e := (.aload_n 0, 1, 0, 0, 0)) gt205 rfl) rfl rfl
set_option maxRecDepth 100000 in
theorem u205_284 : gR (gcl d) X 205 284 [l0, l1, l2, some (.int x)] st sh M kc ks Q = gR (gcl d) X 205 285 [l0, l1, l2, some (.int x)] (.int x :: st) sh M kc ks Q := x_iload_n (gcl_m d) (gopt (e := (.iload_n 3, 1, 0, 0, 0)) gt205 rfl) rfl rfl
set_option maxRecDepth 100000 in
theorem u205_285 : gR (gcl d) X 205 285 [l0, l1, l2, l3] st sh M kc ks Q = gR (gcl d) X 205 286 [l0, l1, l2, l3] (.int (nI 5) :: st) sh M kc ks Q := x_iconst (gcl_m d) (gopt (e := (.iconst 5, 1, 0, 0, 0)) gt205 rfl) (by decide) rfl
set_option maxRecDepth 100000 in
theorem u205_286 : gR (gcl d) X 205 286 [l0, l1, l2, l3] (.int y :: .int x :: st) sh M kc ks Q = gR (gcl d) X 205 287 [l0, l1, l2, l3] (.int (x + y) :: st) sh M kc ks Q := x_iadd (gcl_m d) (gopt (e := (.iadd, 1, 0, 0, 0)) gt205 rfl) rfl
set_option maxRecDepth 100000 in
theorem u205_287 : gR (gcl d) X 205 287 [l0, l1, l2, l3] (.int x :: .float fk :: st) sh M kc ks Q = (vp_in x (gro 205 X fk).1 ∧ gR (gcl d) X 205 288 [l0, l1, l2, l3] (.int ((gro 205 X fk).2 x.toNatClampNeg) :: st) sh M kc ks Q) := x_iaro (gcl_m d) (gopt (e := (.iaload, 1, 0, 0, 0)) gt205 rfl) rfl
set_option maxRecDepth 100000 in
theorem u205_288 : gR (gcl d) X 205 288 [l0, l1, l2, l3] (v5 :: v4 :: v3 :: v2 :: v1 :: .ref o :: st) sh M kc ks Q = ((gci sh o = some 6 ∧ st.length ≤ 4 ∧ gro1 205 kc ks 0 0) ∧ gcl d 77 [.ref o, v1, v2, v3, v4, v5] sh M fun v sh2 M2 => gR (gcl d) X 205 291 [l0, l1, l2, l3] (v ++ st) sh2 M2 kc ks Q) := x_virtk (gcl_m d) (gopt (e := (.invokevirtual 22, 3, 77, 5, 0)) gt205 rfl) rfl rfl rfl rfl rfl
set_option maxRecDepth 100000 in
theorem u205_291 : gR (gcl d) X 205 291 [l0, l1, some (.ref o), l3] st sh M kc ks Q = gR (gcl d) X 205 292 [l0, l1, some (.ref o), l3] (.ref o :: st) sh M kc ks Q := x_aload_n (gcl_m d) (gopt (e := (.aload_n 2, 1, 0, 0, 0)) gt205 rfl) rfl rfl
set_option maxRecDepth 100000 in
theorem u205_291f : gR (gcl d) X 205 291 [l0, l1, some (.float fk), l3] st sh M kc ks Q = gR (gcl d) X 205 292 [l0, l1, some (.float fk), l3] (.float fk :: st) sh M kc ks Q := x_aload_nf (gcl_m d) (gopt (e := (.aload_n 2, 1, 0, 0, 0)) gt205 rfl) rfl rfl
set_option maxRecDepth 100000 in
theorem u205_292 : gR (gcl d) X 205 292 [some (.ref o), l1, l2, l3] st sh M kc ks Q = gR (gcl d) X 205 293 [some (.ref o), l1, l2, l3] (.ref o :: st) sh M kc ks Q := x_aload_n (gcl_m d) (gopt (e := (.aload_n 0, 1, 0, 0, 0)) gt205 rfl) rfl rfl
set_option maxRecDepth 100000 in
theorem u205_292f : gR (gcl d) X 205 292 [some (.float fk), l1, l2, l3] st sh M kc ks Q = gR (gcl d) X 205 293 [some (.float fk), l1, l2, l3] (.float fk :: st) sh M kc ks Q := x_aload_nf (gcl_m d) (gopt (e := (.aload_n 0, 1, 0, 0, 0)) gt205 rfl) rfl rfl
set_option maxRecDepth 100000 in
theorem u205_293 : gR (gcl d) X 205 293 [l0, l1, l2, some (.int x)] st sh M kc ks Q = gR (gcl d) X 205 294 [l0, l1, l2, some (.int x)] (.int x :: st) sh M kc ks Q := x_iload_n (gcl_m d) (gopt (e := (.iload_n 3, 1, 0, 0, 0)) gt205 rfl) rfl rfl
set_option maxRecDepth 100000 in
theorem u205_294 : gR (gcl d) X 205 294 [l0, l1, l2, l3] st sh M kc ks Q = gR (gcl d) X 205 295 [l0, l1, l2, l3] (.int (nI 1) :: st) sh M kc ks Q := x_iconst (gcl_m d) (gopt (e := (.iconst 1, 1, 0, 0, 0)) gt205 rfl) (by decide) rfl
set_option maxRecDepth 100000 in
theorem u205_295 : gR (gcl d) X 205 295 [l0, l1, l2, l3] (.int y :: .int x :: st) sh M kc ks Q = gR (gcl d) X 205 296 [l0, l1, l2, l3] (.int (x + y) :: st) sh M kc ks Q := x_iadd (gcl_m d) (gopt (e := (.iadd, 1, 0, 0, 0)) gt205 rfl) rfl
set_option maxRecDepth 100000 in
theorem u205_296 : gR (gcl d) X 205 296 [l0, l1, l2, l3] (.int x :: .float fk :: st) sh M kc ks Q = (vp_in x (gro 205 X fk).1 ∧ gR (gcl d) X 205 297 [l0, l1, l2, l3] (.int ((gro 205 X fk).2 x.toNatClampNeg) :: st) sh M kc ks Q) := x_iaro (gcl_m d) (gopt (e := (.iaload, 1, 0, 0, 0)) gt205 rfl) rfl
set_option maxRecDepth 100000 in
theorem u205_297 : gR (gcl d) X 205 297 [some (.ref o), l1, l2, l3] st sh M kc ks Q = gR (gcl d) X 205 298 [some (.ref o), l1, l2, l3] (.ref o :: st) sh M kc ks Q := x_aload_n (gcl_m d) (gopt (e := (.aload_n 0, 1, 0, 0, 0)) gt205 rfl) rfl rfl
set_option maxRecDepth 100000 in
theorem u205_297f : gR (gcl d) X 205 297 [some (.float fk), l1, l2, l3] st sh M kc ks Q = gR (gcl d) X 205 298 [some (.float fk), l1, l2, l3] (.float fk :: st) sh M kc ks Q := x_aload_nf (gcl_m d) (gopt (e := (.aload_n 0, 1, 0, 0, 0)) gt205 rfl) rfl rfl
set_option maxRecDepth 100000 in
theorem u205_298 : gR (gcl d) X 205 298 [l0, l1, l2, some (.int x)] st sh M kc ks Q = gR (gcl d) X 205 299 [l0, l1, l2, some (.int x)] (.int x :: st) sh M kc ks Q := x_iload_n (gcl_m d) (gopt (e := (.iload_n 3, 1, 0, 0, 0)) gt205 rfl) rfl rfl
set_option maxRecDepth 100000 in
theorem u205_299 : gR (gcl d) X 205 299 [l0, l1, l2, l3] st sh M kc ks Q = gR (gcl d) X 205 300 [l0, l1, l2, l3] (.int (nI 2) :: st) sh M kc ks Q := x_iconst (gcl_m d) (gopt (e := (.iconst 2, 1, 0, 0, 0)) gt205 rfl) (by decide) rfl
set_option maxRecDepth 100000 in
theorem u205_300 : gR (gcl d) X 205 300 [l0, l1, l2, l3] (.int y :: .int x :: st) sh M kc ks Q = gR (gcl d) X 205 301 [l0, l1, l2, l3] (.int (x + y) :: st) sh M kc ks Q := x_iadd (gcl_m d) (gopt (e := (.iadd, 1, 0, 0, 0)) gt205 rfl) rfl
set_option maxRecDepth 100000 in
theorem u205_301 : gR (gcl d) X 205 301 [l0, l1, l2, l3] (.int x :: .float fk :: st) sh M kc ks Q = (vp_in x (gro 205 X fk).1 ∧ gR (gcl d) X 205 302 [l0, l1, l2, l3] (.int ((gro 205 X fk).2 x.toNatClampNeg) :: st) sh M kc ks Q) := x_iaro (gcl_m d) (gopt (e := (.iaload, 1, 0, 0, 0)) gt205 rfl) rfl
set_option maxRecDepth 100000 in
theorem u205_302 : gR (gcl d) X 205 302 [some (.ref o), l1, l2, l3] st sh M kc ks Q = gR (gcl d) X 205 303 [some (.ref o), l1, l2, l3] (.ref o :: st) sh M kc ks Q := x_aload_n (gcl_m d) (gopt (e := (.aload_n 0, 1, 0, 0, 0)) gt205 rfl) rfl rfl
set_option maxRecDepth 100000 in
theorem u205_302f : gR (gcl d) X 205 302 [some (.float fk), l1, l2, l3] st sh M kc ks Q = gR (gcl d) X 205 303 [some (.float fk), l1, l2, l3] (.float fk :: st) sh M kc ks Q := x_aload_nf (gcl_m d) (gopt (e := (.aload_n 0, 1, 0, 0, 0)) gt205 rfl) rfl rfl
set_option maxRecDepth 100000 in
theorem u205_303 : gR (gcl d) X 205 303 [l0, l1, l2, some (.int x)] st sh M kc ks Q = gR (gcl d) X 205 304 [l0, l1, l2, some (.int x)] (.int x :: st) sh M kc ks Q := x_iload_n (gcl_m d) (gopt (e := (.iload_n 3, 1, 0, 0, 0)) gt205 rfl) rfl rfl
set_option maxRecDepth 100000 in
theorem u205_304 : gR (gcl d) X 205 304 [l0, l1, l2, l3] st sh M kc ks Q = gR (gcl d) X 205 305 [l0, l1, l2, l3] (.int (nI 3) :: st) sh M kc ks Q := x_iconst (gcl_m d) (gopt (e := (.iconst 3, 1, 0, 0, 0)) gt205 rfl) (by decide) rfl
set_option maxRecDepth 100000 in
theorem u205_305 : gR (gcl d) X 205 305 [l0, l1, l2, l3] (.int y :: .int x :: st) sh M kc ks Q = gR (gcl d) X 205 306 [l0, l1, l2, l3] (.int (x + y) :: st) sh M kc ks Q := x_iadd (gcl_m d) (gopt (e := (.iadd, 1, 0, 0, 0)) gt205 rfl) rfl
set_option maxRecDepth 100000 in
theorem u205_306 : gR (gcl d) X 205 306 [l0, l1, l2, l3] (.int x :: .float fk :: st) sh M kc ks Q = (vp_in x (gro 205 X fk).1 ∧ gR (gcl d) X 205 307 [l0, l1, l2, l3] (.int ((gro 205 X fk).2 x.toNatClampNeg) :: st) sh M kc ks Q) := x_iaro (gcl_m d) (gopt (e := (.iaload, 1, 0, 0, 0)) gt205 rfl) rfl
set_option maxRecDepth 100000 in
theorem u205_307 : gR (gcl d) X 205 307 [some (.ref o), l1, l2, l3] st sh M kc ks Q = gR (gcl d) X 205 308 [some (.ref o), l1, l2, l3] (.ref o :: st) sh M kc ks Q := x_aload_n (gcl_m d) (gopt (e := (.aload_n 0, 1, 0, 0, 0)) gt205 rfl) rfl rfl
set_option maxRecDepth 100000 in
theorem u205_307f : gR (gcl d) X 205 307 [some (.float fk), l1, l2, l3] st sh M kc ks Q = gR (gcl d) X 205 308 [some (.float fk), l1, l2, l3] (.float fk :: st) sh M kc ks Q := x_aload_nf (gcl_m d) (gopt (e := (.aload_n 0, 1, 0, 0, 0)) gt205 rfl) rfl rfl
set_option maxRecDepth 100000 in
theorem u205_308 : gR (gcl d) X 205 308 [l0, l1, l2, some (.int x)] st sh M kc ks Q = gR (gcl d) X 205 309 [l0, l1, l2, some (.int x)] (.int x :: st) sh M kc ks Q := x_iload_n (gcl_m d) (gopt (e := (.iload_n 3, 1, 0, 0, 0)) gt205 rfl) rfl rfl
set_option maxRecDepth 100000 in
theorem u205_309 : gR (gcl d) X 205 309 [l0, l1, l2, l3] st sh M kc ks Q = gR (gcl d) X 205 310 [l0, l1, l2, l3] (.int (nI 4) :: st) sh M kc ks Q := x_iconst (gcl_m d) (gopt (e := (.iconst 4, 1, 0, 0, 0)) gt205 rfl) (by decide) rfl
set_option maxRecDepth 100000 in
theorem u205_310 : gR (gcl d) X 205 310 [l0, l1, l2, l3] (.int y :: .int x :: st) sh M kc ks Q = gR (gcl d) X 205 311 [l0, l1, l2, l3] (.int (x + y) :: st) sh M kc ks Q := x_iadd (gcl_m d) (gopt (e := (.iadd, 1, 0, 0, 0)) gt205 rfl) rfl
set_option maxRecDepth 100000 in
theorem u205_311 : gR (gcl d) X 205 311 [l0, l1, l2, l3] (.int x :: .float fk :: st) sh M kc ks Q = (vp_in x (gro 205 X fk).1 ∧ gR (gcl d) X 205 312 [l0, l1, l2, l3] (.int ((gro 205 X fk).2 x.toNatClampNeg) :: st) sh M kc ks Q) := x_iaro (gcl_m d) (gopt (e := (.iaload, 1, 0, 0, 0)) gt205 rfl) rfl
set_option maxRecDepth 100000 in
theorem u205_312 : gR (gcl d) X 205 312 [some (.ref o), l1, l2, l3] st sh M kc ks Q = gR (gcl d) X 205 313 [some (.ref o), l1, l2, l3] (.ref o :: st) sh M kc ks Q := x_aload_n (gcl_m d) (gopt (e := (.aload_n 0, 1, 0, 0, 0)) gt205 rfl) rfl rfl
set_option maxRecDepth 100000 in
theorem u205_312f : gR (gcl d) X 205 312 [some (.float fk), l1, l2, l3] st sh M kc ks Q = gR (gcl d) X 205 313 [some (.float fk), l1, l2, l3] (.float fk :: st) sh M kc ks Q := x_aload_nf (gcl_m d) (gopt (e := (.aload_n 0, 1, 0, 0, 0)) gt205 rfl) rfl rfl
set_option maxRecDepth 100000 in
theorem u205_313 : gR (gcl d) X 205 313 [l0, l1, l2, some (.int x)] st sh M kc ks Q = gR (gcl d) X 205 314 [l0, l1, l2, some (.int x)] (.int x :: st) sh M kc ks Q := x_iload_n (gcl_m d) (gopt (e := (.iload_n 3, 1, 0, 0, 0)) gt205 rfl) rfl rfl
set_option maxRecDepth 100000 in
theorem u205_314 : gR (gcl d) X 205 314 [l0, l1, l2, l3] st sh M kc ks Q = gR (gcl d) X 205 315 [l0, l1, l2, l3] (.int (nI 5) :: st) sh M kc ks Q := x_iconst (gcl_m d) (gopt (e := (.iconst 5, 1, 0, 0, 0)) gt205 rfl) (by decide) rfl
set_option maxRecDepth 100000 in
theorem u205_315 : gR (gcl d) X 205 315 [l0, l1, l2, l3] (.int y :: .int x :: st) sh M kc ks Q = gR (gcl d) X 205 316 [l0, l1, l2, l3] (.int (x + y) :: st) sh M kc ks Q := x_iadd (gcl_m d) (gopt (e := (.iadd, 1, 0, 0, 0)) gt205 rfl) rfl
set_option maxRecDepth 100000 in
theorem u205_316 : gR (gcl d) X 205 316 [l0, l1, l2, l3] (.int x :: .float fk :: st) sh M kc ks Q = (vp_in x (gro 205 X fk).1 ∧ gR (gcl d) X 205 317 [l0, l1, l2, l3] (.int ((gro 205 X fk).2 x.toNatClampNeg) :: st) sh M kc ks Q) := x_iaro (gcl_m d) (gopt (e := (.iaload, 1, 0, 0, 0)) gt205 rfl) rfl
set_option maxRecDepth 100000 in
theorem u205_317 : gR (gcl d) X 205 317 [l0, l1, l2, l3] (v5 :: v4 :: v3 :: v2 :: v1 :: .ref o :: st) sh M kc ks Q = ((gci sh o = some 7 ∧ st.length ≤ 4 ∧ gro1 205 kc ks 0 0) ∧ gcl d 132 [.ref o, v1, v2, v3, v4, v5] sh M fun v sh2 M2 => gR (gcl d) X 205 320 [l0, l1, l2, l3] (v ++ st) sh2 M2 kc ks Q) := x_virtk (gcl_m d) (gopt (e := (.invokevirtual 26, 3, 132, 5, 0)) gt205 rfl) rfl rfl rfl rfl rfl
set_option maxRecDepth 100000 in
theorem u205_320 : gR (gcl d) X 205 320 [l0, l1, l2, l3] (.int y :: .int x :: st) sh M kc ks Q = ((x = y → gR (gcl d) X 205 1222 [l0, l1, l2, l3] st sh M kc ks Q) ∧ (¬ x = y → gR (gcl d) X 205 323 [l0, l1, l2, l3] st sh M kc ks Q)) := x_icmp_eq (gcl_m d) (gopt (e := (.if_icmp .eq 902, 3, 1222, 0, 0)) gt205 rfl) rfl
set_option maxRecDepth 100000 in
theorem u205_323 : gR (gcl d) X 205 323 [l0, l1, l2, l3] st sh M kc ks Q = gR (gcl d) X 205 324 [l0, l1, l2, l3] (.int (nI 0) :: st) sh M kc ks Q := x_iconst (gcl_m d) (gopt (e := (.iconst 0, 1, 0, 0, 0)) gt205 rfl) (by decide) rfl
set_option maxRecDepth 100000 in
theorem u205_324 : gR (gcl d) X 205 324 [l0, l1, l2, l3] [.int (nI 1)] sh M kc ks Q = (gfin 205 kc ks ∧ Q [.int (nI 1)] sh M) := x_retk (gcl_m d) (gopt (e := (.ireturn, 1, 0, 0, 0)) gt205 rfl) (Or.inr ⟨rfl, Or.inr (by decide)⟩)
set_option maxRecDepth 100000 in
theorem u205_325 : gR (gcl d) X 205 325 [l0, some (.ref o), l2, l3] st sh M kc ks Q = gR (gcl d) X 205 326 [l0, some (.ref o), l2, l3] (.ref o :: st) sh M kc ks Q := x_aload_n (gcl_m d) (gopt (e := (.aload_n 1, 1, 0, 0, 0)) gt205 rfl) rfl rfl
set_option maxRecDepth 100000 in
theorem u205_325f : gR (gcl d) X 205 325 [l0, some (.float fk), l2, l3] st sh M kc ks Q = gR (gcl d) X 205 326 [l0, some (.float fk), l2, l3] (.float fk :: st) sh M kc ks Q := x_aload_nf (gcl_m d) (gopt (e := (.aload_n 1, 1, 0, 0, 0)) gt205 rfl) rfl rfl
set_option maxRecDepth 100000 in
theorem u205_326 : gR (gcl d) X 205 326 [some (.ref o), l1, l2, l3] st sh M kc ks Q = gR (gcl d) X 205 327 [some (.ref o), l1, l2, l3] (.ref o :: st) sh M kc ks Q := x_aload_n (gcl_m d) (gopt (e := (.aload_n 0, 1, 0, 0, 0)) gt205 rfl) rfl rfl
set_option maxRecDepth 100000 in
theorem u205_326f : gR (gcl d) X 205 326 [some (.float fk), l1, l2, l3] st sh M kc ks Q = gR (gcl d) X 205 327 [some (.float fk), l1, l2, l3] (.float fk :: st) sh M kc ks Q := x_aload_nf (gcl_m d) (gopt (e := (.aload_n 0, 1, 0, 0, 0)) gt205 rfl) rfl rfl
set_option maxRecDepth 100000 in
theorem u205_327 : gR (gcl d) X 205 327 [l0, l1, l2, some (.int x)] st sh M kc ks Q = gR (gcl d) X 205 328 [l0, l1, l2, some (.int x)] (.int x :: st) sh M kc ks Q := x_iload_n (gcl_m d) (gopt (e := (.iload_n 3, 1, 0, 0, 0)) gt205 rfl) rfl rfl
set_option maxRecDepth 100000 in
theorem u205_328 : gR (gcl d) X 205 328 [l0, l1, l2, l3] st sh M kc ks Q = gR (gcl d) X 205 329 [l0, l1, l2, l3] (.int (nI 1) :: st) sh M kc ks Q := x_iconst (gcl_m d) (gopt (e := (.iconst 1, 1, 0, 0, 0)) gt205 rfl) (by decide) rfl
set_option maxRecDepth 100000 in
theorem u205_329 : gR (gcl d) X 205 329 [l0, l1, l2, l3] (.int y :: .int x :: st) sh M kc ks Q = gR (gcl d) X 205 330 [l0, l1, l2, l3] (.int (x + y) :: st) sh M kc ks Q := x_iadd (gcl_m d) (gopt (e := (.iadd, 1, 0, 0, 0)) gt205 rfl) rfl
set_option maxRecDepth 100000 in
theorem u205_330 : gR (gcl d) X 205 330 [l0, l1, l2, l3] (.int x :: .float fk :: st) sh M kc ks Q = (vp_in x (gro 205 X fk).1 ∧ gR (gcl d) X 205 331 [l0, l1, l2, l3] (.int ((gro 205 X fk).2 x.toNatClampNeg) :: st) sh M kc ks Q) := x_iaro (gcl_m d) (gopt (e := (.iaload, 1, 0, 0, 0)) gt205 rfl) rfl
set_option maxRecDepth 100000 in
theorem u205_331 : gR (gcl d) X 205 331 [l0, l1, l2, l3] (v1 :: .ref o :: st) sh M kc ks Q = ((gci sh o = some 6 ∧ st.length ≤ 4 ∧ gro1 205 kc ks 0 0) ∧ gcl d 78 [.ref o, v1] sh M fun v sh2 M2 => gR (gcl d) X 205 334 [l0, l1, l2, l3] (v ++ st) sh2 M2 kc ks Q) := x_virtk (gcl_m d) (gopt (e := (.invokevirtual 27, 3, 78, 1, 0)) gt205 rfl) rfl rfl rfl rfl rfl
set_option maxRecDepth 100000 in
theorem u205_334 : gR (gcl d) X 205 334 [l0, l1, some (.ref o), l3] st sh M kc ks Q = gR (gcl d) X 205 335 [l0, l1, some (.ref o), l3] (.ref o :: st) sh M kc ks Q := x_aload_n (gcl_m d) (gopt (e := (.aload_n 2, 1, 0, 0, 0)) gt205 rfl) rfl rfl
set_option maxRecDepth 100000 in
theorem u205_334f : gR (gcl d) X 205 334 [l0, l1, some (.float fk), l3] st sh M kc ks Q = gR (gcl d) X 205 335 [l0, l1, some (.float fk), l3] (.float fk :: st) sh M kc ks Q := x_aload_nf (gcl_m d) (gopt (e := (.aload_n 2, 1, 0, 0, 0)) gt205 rfl) rfl rfl
set_option maxRecDepth 100000 in
theorem u205_335 : gR (gcl d) X 205 335 [some (.ref o), l1, l2, l3] st sh M kc ks Q = gR (gcl d) X 205 336 [some (.ref o), l1, l2, l3] (.ref o :: st) sh M kc ks Q := x_aload_n (gcl_m d) (gopt (e := (.aload_n 0, 1, 0, 0, 0)) gt205 rfl) rfl rfl
set_option maxRecDepth 100000 in
theorem u205_335f : gR (gcl d) X 205 335 [some (.float fk), l1, l2, l3] st sh M kc ks Q = gR (gcl d) X 205 336 [some (.float fk), l1, l2, l3] (.float fk :: st) sh M kc ks Q := x_aload_nf (gcl_m d) (gopt (e := (.aload_n 0, 1, 0, 0, 0)) gt205 rfl) rfl rfl
set_option maxRecDepth 100000 in
theorem u205_336 : gR (gcl d) X 205 336 [l0, l1, l2, some (.int x)] st sh M kc ks Q = gR (gcl d) X 205 337 [l0, l1, l2, some (.int x)] (.int x :: st) sh M kc ks Q := x_iload_n (gcl_m d) (gopt (e := (.iload_n 3, 1, 0, 0, 0)) gt205 rfl) rfl rfl
set_option maxRecDepth 100000 in
theorem u205_337 : gR (gcl d) X 205 337 [l0, l1, l2, l3] st sh M kc ks Q = gR (gcl d) X 205 338 [l0, l1, l2, l3] (.int (nI 1) :: st) sh M kc ks Q := x_iconst (gcl_m d) (gopt (e := (.iconst 1, 1, 0, 0, 0)) gt205 rfl) (by decide) rfl
set_option maxRecDepth 100000 in
theorem u205_338 : gR (gcl d) X 205 338 [l0, l1, l2, l3] (.int y :: .int x :: st) sh M kc ks Q = gR (gcl d) X 205 339 [l0, l1, l2, l3] (.int (x + y) :: st) sh M kc ks Q := x_iadd (gcl_m d) (gopt (e := (.iadd, 1, 0, 0, 0)) gt205 rfl) rfl
set_option maxRecDepth 100000 in
theorem u205_339 : gR (gcl d) X 205 339 [l0, l1, l2, l3] (.int x :: .float fk :: st) sh M kc ks Q = (vp_in x (gro 205 X fk).1 ∧ gR (gcl d) X 205 340 [l0, l1, l2, l3] (.int ((gro 205 X fk).2 x.toNatClampNeg) :: st) sh M kc ks Q) := x_iaro (gcl_m d) (gopt (e := (.iaload, 1, 0, 0, 0)) gt205 rfl) rfl
set_option maxRecDepth 100000 in
theorem u205_340 : gR (gcl d) X 205 340 [l0, l1, l2, l3] (v1 :: .ref o :: st) sh M kc ks Q = ((gci sh o = some 7 ∧ st.length ≤ 4 ∧ gro1 205 kc ks 0 0) ∧ gcl d 133 [.ref o, v1] sh M fun v sh2 M2 => gR (gcl d) X 205 343 [l0, l1, l2, l3] (v ++ st) sh2 M2 kc ks Q) := x_virtk (gcl_m d) (gopt (e := (.invokevirtual 31, 3, 133, 1, 0)) gt205 rfl) rfl rfl rfl rfl rfl
set_option maxRecDepth 100000 in
theorem u205_343 : gR (gcl d) X 205 343 [l0, l1, l2, l3] (.int y :: .int x :: st) sh M kc ks Q = ((x = y → gR (gcl d) X 205 1222 [l0, l1, l2, l3] st sh M kc ks Q) ∧ (¬ x = y → gR (gcl d) X 205 346 [l0, l1, l2, l3] st sh M kc ks Q)) := x_icmp_eq (gcl_m d) (gopt (e := (.if_icmp .eq 879, 3, 1222, 0, 0)) gt205 rfl) rfl
set_option maxRecDepth 100000 in
theorem u205_346 : gR (gcl d) X 205 346 [l0, l1, l2, l3] st sh M kc ks Q = gR (gcl d) X 205 347 [l0, l1, l2, l3] (.int (nI 0) :: st) sh M kc ks Q := x_iconst (gcl_m d) (gopt (e := (.iconst 0, 1, 0, 0, 0)) gt205 rfl) (by decide) rfl
set_option maxRecDepth 100000 in
theorem u205_347 : gR (gcl d) X 205 347 [l0, l1, l2, l3] [.int (nI 1)] sh M kc ks Q = (gfin 205 kc ks ∧ Q [.int (nI 1)] sh M) := x_retk (gcl_m d) (gopt (e := (.ireturn, 1, 0, 0, 0)) gt205 rfl) (Or.inr ⟨rfl, Or.inr (by decide)⟩)
set_option maxRecDepth 100000 in
theorem u205_348 : gR (gcl d) X 205 348 [l0, some (.ref o), l2, l3] st sh M kc ks Q = gR (gcl d) X 205 349 [l0, some (.ref o), l2, l3] (.ref o :: st) sh M kc ks Q := x_aload_n (gcl_m d) (gopt (e := (.aload_n 1, 1, 0, 0, 0)) gt205 rfl) rfl rfl
set_option maxRecDepth 100000 in
theorem u205_348f : gR (gcl d) X 205 348 [l0, some (.float fk), l2, l3] st sh M kc ks Q = gR (gcl d) X 205 349 [l0, some (.float fk), l2, l3] (.float fk :: st) sh M kc ks Q := x_aload_nf (gcl_m d) (gopt (e := (.aload_n 1, 1, 0, 0, 0)) gt205 rfl) rfl rfl
set_option maxRecDepth 100000 in
theorem u205_349 : gR (gcl d) X 205 349 [some (.ref o), l1, l2, l3] st sh M kc ks Q = gR (gcl d) X 205 350 [some (.ref o), l1, l2, l3] (.ref o :: st) sh M kc ks Q := x_aload_n (gcl_m d) (gopt (e := (.aload_n 0, 1, 0, 0, 0)) gt205 rfl) rfl rfl
set_option maxRecDepth 100000 in
theorem u205_349f : gR (gcl d) X 205 349 [some (.float fk), l1, l2, l3] st sh M kc ks Q = gR (gcl d) X 205 350 [some (.float fk), l1, l2, l3] (.float fk :: st) sh M kc ks Q := x_aload_nf (gcl_m d) (gopt (e := (.aload_n 0, 1, 0, 0, 0)) gt205 rfl) rfl rfl
set_option maxRecDepth 100000 in
theorem u205_350 : gR (gcl d) X 205 350 [l0, l1, l2, some (.int x)] st sh M kc ks Q = gR (gcl d) X 205 351 [l0, l1, l2, some (.int x)] (.int x :: st) sh M kc ks Q := x_iload_n (gcl_m d) (gopt (e := (.iload_n 3, 1, 0, 0, 0)) gt205 rfl) rfl rfl
set_option maxRecDepth 100000 in
theorem u205_351 : gR (gcl d) X 205 351 [l0, l1, l2, l3] st sh M kc ks Q = gR (gcl d) X 205 352 [l0, l1, l2, l3] (.int (nI 1) :: st) sh M kc ks Q := x_iconst (gcl_m d) (gopt (e := (.iconst 1, 1, 0, 0, 0)) gt205 rfl) (by decide) rfl
set_option maxRecDepth 100000 in
theorem u205_352 : gR (gcl d) X 205 352 [l0, l1, l2, l3] (.int y :: .int x :: st) sh M kc ks Q = gR (gcl d) X 205 353 [l0, l1, l2, l3] (.int (x + y) :: st) sh M kc ks Q := x_iadd (gcl_m d) (gopt (e := (.iadd, 1, 0, 0, 0)) gt205 rfl) rfl
set_option maxRecDepth 100000 in
theorem u205_353 : gR (gcl d) X 205 353 [l0, l1, l2, l3] (.int x :: .float fk :: st) sh M kc ks Q = (vp_in x (gro 205 X fk).1 ∧ gR (gcl d) X 205 354 [l0, l1, l2, l3] (.int ((gro 205 X fk).2 x.toNatClampNeg) :: st) sh M kc ks Q) := x_iaro (gcl_m d) (gopt (e := (.iaload, 1, 0, 0, 0)) gt205 rfl) rfl
set_option maxRecDepth 100000 in
theorem u205_354 : gR (gcl d) X 205 354 [l0, l1, l2, l3] (v1 :: .ref o :: st) sh M kc ks Q = ((gci sh o = some 6 ∧ st.length ≤ 4 ∧ gro1 205 kc ks 0 0) ∧ gcl d 79 [.ref o, v1] sh M fun v sh2 M2 => gR (gcl d) X 205 357 [l0, l1, l2, l3] (v ++ st) sh2 M2 kc ks Q) := x_virtk (gcl_m d) (gopt (e := (.invokevirtual 32, 3, 79, 1, 0)) gt205 rfl) rfl rfl rfl rfl rfl
set_option maxRecDepth 100000 in
theorem u205_357 : gR (gcl d) X 205 357 [l0, l1, some (.ref o), l3] st sh M kc ks Q = gR (gcl d) X 205 358 [l0, l1, some (.ref o), l3] (.ref o :: st) sh M kc ks Q := x_aload_n (gcl_m d) (gopt (e := (.aload_n 2, 1, 0, 0, 0)) gt205 rfl) rfl rfl
set_option maxRecDepth 100000 in
theorem u205_357f : gR (gcl d) X 205 357 [l0, l1, some (.float fk), l3] st sh M kc ks Q = gR (gcl d) X 205 358 [l0, l1, some (.float fk), l3] (.float fk :: st) sh M kc ks Q := x_aload_nf (gcl_m d) (gopt (e := (.aload_n 2, 1, 0, 0, 0)) gt205 rfl) rfl rfl
set_option maxRecDepth 100000 in
theorem u205_358 : gR (gcl d) X 205 358 [some (.ref o), l1, l2, l3] st sh M kc ks Q = gR (gcl d) X 205 359 [some (.ref o), l1, l2, l3] (.ref o :: st) sh M kc ks Q := x_aload_n (gcl_m d) (gopt (e := (.aload_n 0, 1, 0, 0, 0)) gt205 rfl) rfl rfl
set_option maxRecDepth 100000 in
theorem u205_358f : gR (gcl d) X 205 358 [some (.float fk), l1, l2, l3] st sh M kc ks Q = gR (gcl d) X 205 359 [some (.float fk), l1, l2, l3] (.float fk :: st) sh M kc ks Q := x_aload_nf (gcl_m d) (gopt (e := (.aload_n 0, 1, 0, 0, 0)) gt205 rfl) rfl rfl
set_option maxRecDepth 100000 in
theorem u205_359 : gR (gcl d) X 205 359 [l0, l1, l2, some (.int x)] st sh M kc ks Q = gR (gcl d) X 205 360 [l0, l1, l2, some (.int x)] (.int x :: st) sh M kc ks Q := x_iload_n (gcl_m d) (gopt (e := (.iload_n 3, 1, 0, 0, 0)) gt205 rfl) rfl rfl
set_option maxRecDepth 100000 in
theorem u205_360 : gR (gcl d) X 205 360 [l0, l1, l2, l3] st sh M kc ks Q = gR (gcl d) X 205 361 [l0, l1, l2, l3] (.int (nI 1) :: st) sh M kc ks Q := x_iconst (gcl_m d) (gopt (e := (.iconst 1, 1, 0, 0, 0)) gt205 rfl) (by decide) rfl
set_option maxRecDepth 100000 in
theorem u205_361 : gR (gcl d) X 205 361 [l0, l1, l2, l3] (.int y :: .int x :: st) sh M kc ks Q = gR (gcl d) X 205 362 [l0, l1, l2, l3] (.int (x + y) :: st) sh M kc ks Q := x_iadd (gcl_m d) (gopt (e := (.iadd, 1, 0, 0, 0)) gt205 rfl) rfl
set_option maxRecDepth 100000 in
theorem u205_362 : gR (gcl d) X 205 362 [l0, l1, l2, l3] (.int x :: .float fk :: st) sh M kc ks Q = (vp_in x (gro 205 X fk).1 ∧ gR (gcl d) X 205 363 [l0, l1, l2, l3] (.int ((gro 205 X fk).2 x.toNatClampNeg) :: st) sh M kc ks Q) := x_iaro (gcl_m d) (gopt (e := (.iaload, 1, 0, 0, 0)) gt205 rfl) rfl
set_option maxRecDepth 100000 in
theorem u205_363 : gR (gcl d) X 205 363 [l0, l1, l2, l3] (v1 :: .ref o :: st) sh M kc ks Q = ((gci sh o = some 7 ∧ st.length ≤ 4 ∧ gro1 205 kc ks 0 0) ∧ gcl d 134 [.ref o, v1] sh M fun v sh2 M2 => gR (gcl d) X 205 366 [l0, l1, l2, l3] (v ++ st) sh2 M2 kc ks Q) := x_virtk (gcl_m d) (gopt (e := (.invokevirtual 35, 3, 134, 1, 0)) gt205 rfl) rfl rfl rfl rfl rfl
set_option maxRecDepth 100000 in
theorem u205_366 : gR (gcl d) X 205 366 [l0, l1, l2, l3] (.int y :: .int x :: st) sh M kc ks Q = ((x = y → gR (gcl d) X 205 1222 [l0, l1, l2, l3] st sh M kc ks Q) ∧ (¬ x = y → gR (gcl d) X 205 369 [l0, l1, l2, l3] st sh M kc ks Q)) := x_icmp_eq (gcl_m d) (gopt (e := (.if_icmp .eq 856, 3, 1222, 0, 0)) gt205 rfl) rfl
set_option maxRecDepth 100000 in
theorem u205_369 : gR (gcl d) X 205 369 [l0, l1, l2, l3] st sh M kc ks Q = gR (gcl d) X 205 370 [l0, l1, l2, l3] (.int (nI 0) :: st) sh M kc ks Q := x_iconst (gcl_m d) (gopt (e := (.iconst 0, 1, 0, 0, 0)) gt205 rfl) (by decide) rfl
set_option maxRecDepth 100000 in
theorem u205_370 : gR (gcl d) X 205 370 [l0, l1, l2, l3] [.int (nI 1)] sh M kc ks Q = (gfin 205 kc ks ∧ Q [.int (nI 1)] sh M) := x_retk (gcl_m d) (gopt (e := (.ireturn, 1, 0, 0, 0)) gt205 rfl) (Or.inr ⟨rfl, Or.inr (by decide)⟩)
set_option maxRecDepth 100000 in
theorem u205_371 : gR (gcl d) X 205 371 [l0, some (.ref o), l2, l3] st sh M kc ks Q = gR (gcl d) X 205 372 [l0, some (.ref o), l2, l3] (.ref o :: st) sh M kc ks Q := x_aload_n (gcl_m d) (gopt (e := (.aload_n 1, 1, 0, 0, 0)) gt205 rfl) rfl rfl
set_option maxRecDepth 100000 in
theorem u205_371f : gR (gcl d) X 205 371 [l0, some (.float fk), l2, l3] st sh M kc ks Q = gR (gcl d) X 205 372 [l0, some (.float fk), l2, l3] (.float fk :: st) sh M kc ks Q := x_aload_nf (gcl_m d) (gopt (e := (.aload_n 1, 1, 0, 0, 0)) gt205 rfl) rfl rfl
set_option maxRecDepth 100000 in
theorem u205_372 : gR (gcl d) X 205 372 [l0, l1, l2, l3] (.ref o :: st) sh M kc ks Q = ((gci sh o = some 6 ∧ st.length ≤ 4 ∧ gro1 205 kc ks 1 7) ∧ gcl d 80 [.ref o] sh M fun v sh2 M2 => gR (gcl d) X 205 375 [l0, l1, l2, l3] (v ++ st) sh2 M2 (kc + 1) (ks + 7) Q) := x_virtk (gcl_m d) (gopt (e := (.invokevirtual 36, 3, 80, 0, 0)) gt205 rfl) rfl rfl rfl rfl rfl
set_option maxRecDepth 100000 in
theorem u205_375 : gR (gcl d) X 205 375 [l0, l1, some (.ref o), l3] st sh M kc ks Q = gR (gcl d) X 205 376 [l0, l1, some (.ref o), l3] (.ref o :: st) sh M kc ks Q := x_aload_n (gcl_m d) (gopt (e := (.aload_n 2, 1, 0, 0, 0)) gt205 rfl) rfl rfl
set_option maxRecDepth 100000 in
theorem u205_375f : gR (gcl d) X 205 375 [l0, l1, some (.float fk), l3] st sh M kc ks Q = gR (gcl d) X 205 376 [l0, l1, some (.float fk), l3] (.float fk :: st) sh M kc ks Q := x_aload_nf (gcl_m d) (gopt (e := (.aload_n 2, 1, 0, 0, 0)) gt205 rfl) rfl rfl
set_option maxRecDepth 100000 in
theorem u205_376 : gR (gcl d) X 205 376 [l0, l1, l2, l3] (.ref o :: st) sh M kc ks Q = ((gci sh o = some 7 ∧ st.length ≤ 4 ∧ gro1 205 kc ks 0 0) ∧ gcl d 144 [.ref o] sh M fun v sh2 M2 => gR (gcl d) X 205 379 [l0, l1, l2, l3] (v ++ st) sh2 M2 kc ks Q) := x_virtk (gcl_m d) (gopt (e := (.invokevirtual 40, 3, 144, 0, 0)) gt205 rfl) rfl rfl rfl rfl rfl
set_option maxRecDepth 100000 in
theorem u205_379 : gR (gcl d) X 205 379 [l0, l1, l2, l3] (.int y :: .int x :: st) sh M kc ks Q = ((x = y → gR (gcl d) X 205 1222 [l0, l1, l2, l3] st sh M kc ks Q) ∧ (¬ x = y → gR (gcl d) X 205 382 [l0, l1, l2, l3] st sh M kc ks Q)) := x_icmp_eq (gcl_m d) (gopt (e := (.if_icmp .eq 843, 3, 1222, 0, 0)) gt205 rfl) rfl
set_option maxRecDepth 100000 in
theorem u205_382 : gR (gcl d) X 205 382 [l0, l1, l2, l3] st sh M kc ks Q = gR (gcl d) X 205 383 [l0, l1, l2, l3] (.int (nI 0) :: st) sh M kc ks Q := x_iconst (gcl_m d) (gopt (e := (.iconst 0, 1, 0, 0, 0)) gt205 rfl) (by decide) rfl
set_option maxRecDepth 100000 in
theorem u205_383 : gR (gcl d) X 205 383 [l0, l1, l2, l3] [.int (nI 1)] sh M kc ks Q = (gfin 205 kc ks ∧ Q [.int (nI 1)] sh M) := x_retk (gcl_m d) (gopt (e := (.ireturn, 1, 0, 0, 0)) gt205 rfl) (Or.inr ⟨rfl, Or.inr (by decide)⟩)
set_option maxRecDepth 100000 in
theorem u205_384 : gR (gcl d) X 205 384 [l0, some (.ref o), l2, l3] st sh M kc ks Q = gR (gcl d) X 205 385 [l0, some (.ref o), l2, l3] (.ref o :: st) sh M kc ks Q := x_aload_n (gcl_m d) (gopt (e := (.aload_n 1, 1, 0, 0, 0)) gt205 rfl) rfl rfl
set_option maxRecDepth 100000 in
theorem u205_384f : gR (gcl d) X 205 384 [l0, some (.float fk), l2, l3] st sh M kc ks Q = gR (gcl d) X 205 385 [l0, some (.float fk), l2, l3] (.float fk :: st) sh M kc ks Q := x_aload_nf (gcl_m d) (gopt (e := (.aload_n 1, 1, 0, 0, 0)) gt205 rfl) rfl rfl
set_option maxRecDepth 100000 in
theorem u205_385 : gR (gcl d) X 205 385 [l0, l1, l2, l3] (.ref o :: st) sh M kc ks Q = ((gci sh o = some 6 ∧ st.length ≤ 4 ∧ gro1 205 kc ks 0 0) ∧ gcl d 81 [.ref o] sh M fun v sh2 M2 => gR (gcl d) X 205 388 [l0, l1, l2, l3] (v ++ st) sh2 M2 kc ks Q) := x_virtk (gcl_m d) (gopt (e := (.invokevirtual 41, 3, 81, 0, 0)) gt205 rfl) rfl rfl rfl rfl rfl
set_option maxRecDepth 100000 in
theorem u205_388 : gR (gcl d) X 205 388 [l0, l1, some (.ref o), l3] st sh M kc ks Q = gR (gcl d) X 205 389 [l0, l1, some (.ref o), l3] (.ref o :: st) sh M kc ks Q := x_aload_n (gcl_m d) (gopt (e := (.aload_n 2, 1, 0, 0, 0)) gt205 rfl) rfl rfl
set_option maxRecDepth 100000 in
theorem u205_388f : gR (gcl d) X 205 388 [l0, l1, some (.float fk), l3] st sh M kc ks Q = gR (gcl d) X 205 389 [l0, l1, some (.float fk), l3] (.float fk :: st) sh M kc ks Q := x_aload_nf (gcl_m d) (gopt (e := (.aload_n 2, 1, 0, 0, 0)) gt205 rfl) rfl rfl
set_option maxRecDepth 100000 in
theorem u205_389 : gR (gcl d) X 205 389 [l0, l1, l2, l3] (.ref o :: st) sh M kc ks Q = ((gci sh o = some 7 ∧ st.length ≤ 4 ∧ gro1 205 kc ks 0 0) ∧ gcl d 145 [.ref o] sh M fun v sh2 M2 => gR (gcl d) X 205 392 [l0, l1, l2, l3] (v ++ st) sh2 M2 kc ks Q) := x_virtk (gcl_m d) (gopt (e := (.invokevirtual 44, 3, 145, 0, 0)) gt205 rfl) rfl rfl rfl rfl rfl
set_option maxRecDepth 100000 in
theorem u205_392 : gR (gcl d) X 205 392 [l0, l1, l2, l3] (.int y :: .int x :: st) sh M kc ks Q = ((x = y → gR (gcl d) X 205 1222 [l0, l1, l2, l3] st sh M kc ks Q) ∧ (¬ x = y → gR (gcl d) X 205 395 [l0, l1, l2, l3] st sh M kc ks Q)) := x_icmp_eq (gcl_m d) (gopt (e := (.if_icmp .eq 830, 3, 1222, 0, 0)) gt205 rfl) rfl
set_option maxRecDepth 100000 in
theorem u205_395 : gR (gcl d) X 205 395 [l0, l1, l2, l3] st sh M kc ks Q = gR (gcl d) X 205 396 [l0, l1, l2, l3] (.int (nI 0) :: st) sh M kc ks Q := x_iconst (gcl_m d) (gopt (e := (.iconst 0, 1, 0, 0, 0)) gt205 rfl) (by decide) rfl
set_option maxRecDepth 100000 in
theorem u205_396 : gR (gcl d) X 205 396 [l0, l1, l2, l3] [.int (nI 1)] sh M kc ks Q = (gfin 205 kc ks ∧ Q [.int (nI 1)] sh M) := x_retk (gcl_m d) (gopt (e := (.ireturn, 1, 0, 0, 0)) gt205 rfl) (Or.inr ⟨rfl, Or.inr (by decide)⟩)
set_option maxRecDepth 100000 in
theorem u205_397 : gR (gcl d) X 205 397 [l0, some (.ref o), l2, l3] st sh M kc ks Q = gR (gcl d) X 205 398 [l0, some (.ref o), l2, l3] (.ref o :: st) sh M kc ks Q := x_aload_n (gcl_m d) (gopt (e := (.aload_n 1, 1, 0, 0, 0)) gt205 rfl) rfl rfl
set_option maxRecDepth 100000 in
theorem u205_397f : gR (gcl d) X 205 397 [l0, some (.float fk), l2, l3] st sh M kc ks Q = gR (gcl d) X 205 398 [l0, some (.float fk), l2, l3] (.float fk :: st) sh M kc ks Q := x_aload_nf (gcl_m d) (gopt (e := (.aload_n 1, 1, 0, 0, 0)) gt205 rfl) rfl rfl
set_option maxRecDepth 100000 in
theorem u205_398 : gR (gcl d) X 205 398 [some (.ref o), l1, l2, l3] st sh M kc ks Q = gR (gcl d) X 205 399 [some (.ref o), l1, l2, l3] (.ref o :: st) sh M kc ks Q := x_aload_n (gcl_m d) (gopt (e := (.aload_n 0, 1, 0, 0, 0)) gt205 rfl) rfl rfl
set_option maxRecDepth 100000 in
theorem u205_398f : gR (gcl d) X 205 398 [some (.float fk), l1, l2, l3] st sh M kc ks Q = gR (gcl d) X 205 399 [some (.float fk), l1, l2, l3] (.float fk :: st) sh M kc ks Q := x_aload_nf (gcl_m d) (gopt (e := (.aload_n 0, 1, 0, 0, 0)) gt205 rfl) rfl rfl
set_option maxRecDepth 100000 in
theorem u205_399 : gR (gcl d) X 205 399 [l0, l1, l2, some (.int x)] st sh M kc ks Q = gR (gcl d) X 205 400 [l0, l1, l2, some (.int x)] (.int x :: st) sh M kc ks Q := x_iload_n (gcl_m d) (gopt (e := (.iload_n 3, 1, 0, 0, 0)) gt205 rfl) rfl rfl
set_option maxRecDepth 100000 in
theorem u205_400 : gR (gcl d) X 205 400 [l0, l1, l2, l3] st sh M kc ks Q = gR (gcl d) X 205 401 [l0, l1, l2, l3] (.int (nI 1) :: st) sh M kc ks Q := x_iconst (gcl_m d) (gopt (e := (.iconst 1, 1, 0, 0, 0)) gt205 rfl) (by decide) rfl
set_option maxRecDepth 100000 in
theorem u205_401 : gR (gcl d) X 205 401 [l0, l1, l2, l3] (.int y :: .int x :: st) sh M kc ks Q = gR (gcl d) X 205 402 [l0, l1, l2, l3] (.int (x + y) :: st) sh M kc ks Q := x_iadd (gcl_m d) (gopt (e := (.iadd, 1, 0, 0, 0)) gt205 rfl) rfl
set_option maxRecDepth 100000 in
theorem u205_402 : gR (gcl d) X 205 402 [l0, l1, l2, l3] (.int x :: .float fk :: st) sh M kc ks Q = (vp_in x (gro 205 X fk).1 ∧ gR (gcl d) X 205 403 [l0, l1, l2, l3] (.int ((gro 205 X fk).2 x.toNatClampNeg) :: st) sh M kc ks Q) := x_iaro (gcl_m d) (gopt (e := (.iaload, 1, 0, 0, 0)) gt205 rfl) rfl
set_option maxRecDepth 100000 in
theorem u205_403 : gR (gcl d) X 205 403 [l0, l1, l2, l3] (v1 :: .ref o :: st) sh M kc ks Q = ((gci sh o = some 6 ∧ st.length ≤ 4 ∧ gro1 205 kc ks 0 0) ∧ gcl d 82 [.ref o, v1] sh M fun v sh2 M2 => gR (gcl d) X 205 406 [l0, l1, l2, l3] (v ++ st) sh2 M2 kc ks Q) := x_virtk (gcl_m d) (gopt (e := (.invokevirtual 45, 3, 82, 1, 0)) gt205 rfl) rfl rfl rfl rfl rfl
set_option maxRecDepth 100000 in
theorem u205_406 : gR (gcl d) X 205 406 [l0, l1, some (.ref o), l3] st sh M kc ks Q = gR (gcl d) X 205 407 [l0, l1, some (.ref o), l3] (.ref o :: st) sh M kc ks Q := x_aload_n (gcl_m d) (gopt (e := (.aload_n 2, 1, 0, 0, 0)) gt205 rfl) rfl rfl
set_option maxRecDepth 100000 in
theorem u205_406f : gR (gcl d) X 205 406 [l0, l1, some (.float fk), l3] st sh M kc ks Q = gR (gcl d) X 205 407 [l0, l1, some (.float fk), l3] (.float fk :: st) sh M kc ks Q := x_aload_nf (gcl_m d) (gopt (e := (.aload_n 2, 1, 0, 0, 0)) gt205 rfl) rfl rfl
set_option maxRecDepth 100000 in
theorem u205_407 : gR (gcl d) X 205 407 [some (.ref o), l1, l2, l3] st sh M kc ks Q = gR (gcl d) X 205 408 [some (.ref o), l1, l2, l3] (.ref o :: st) sh M kc ks Q := x_aload_n (gcl_m d) (gopt (e := (.aload_n 0, 1, 0, 0, 0)) gt205 rfl) rfl rfl
set_option maxRecDepth 100000 in
theorem u205_407f : gR (gcl d) X 205 407 [some (.float fk), l1, l2, l3] st sh M kc ks Q = gR (gcl d) X 205 408 [some (.float fk), l1, l2, l3] (.float fk :: st) sh M kc ks Q := x_aload_nf (gcl_m d) (gopt (e := (.aload_n 0, 1, 0, 0, 0)) gt205 rfl) rfl rfl
set_option maxRecDepth 100000 in
theorem u205_408 : gR (gcl d) X 205 408 [l0, l1, l2, some (.int x)] st sh M kc ks Q = gR (gcl d) X 205 409 [l0, l1, l2, some (.int x)] (.int x :: st) sh M kc ks Q := x_iload_n (gcl_m d) (gopt (e := (.iload_n 3, 1, 0, 0, 0)) gt205 rfl) rfl rfl
set_option maxRecDepth 100000 in
theorem u205_409 : gR (gcl d) X 205 409 [l0, l1, l2, l3] st sh M kc ks Q = gR (gcl d) X 205 410 [l0, l1, l2, l3] (.int (nI 1) :: st) sh M kc ks Q := x_iconst (gcl_m d) (gopt (e := (.iconst 1, 1, 0, 0, 0)) gt205 rfl) (by decide) rfl
set_option maxRecDepth 100000 in
theorem u205_410 : gR (gcl d) X 205 410 [l0, l1, l2, l3] (.int y :: .int x :: st) sh M kc ks Q = gR (gcl d) X 205 411 [l0, l1, l2, l3] (.int (x + y) :: st) sh M kc ks Q := x_iadd (gcl_m d) (gopt (e := (.iadd, 1, 0, 0, 0)) gt205 rfl) rfl
set_option maxRecDepth 100000 in
theorem u205_411 : gR (gcl d) X 205 411 [l0, l1, l2, l3] (.int x :: .float fk :: st) sh M kc ks Q = (vp_in x (gro 205 X fk).1 ∧ gR (gcl d) X 205 412 [l0, l1, l2, l3] (.int ((gro 205 X fk).2 x.toNatClampNeg) :: st) sh M kc ks Q) := x_iaro (gcl_m d) (gopt (e := (.iaload, 1, 0, 0, 0)) gt205 rfl) rfl
set_option maxRecDepth 100000 in
theorem u205_412 : gR (gcl d) X 205 412 [l0, l1, l2, l3] (v1 :: .ref o :: st) sh M kc ks Q = ((gci sh o = some 7 ∧ st.length ≤ 4 ∧ gro1 205 kc ks 0 0) ∧ gcl d 158 [.ref o, v1] sh M fun v sh2 M2 => gR (gcl d) X 205 415 [l0, l1, l2, l3] (v ++ st) sh2 M2 kc ks Q) := x_virtk (gcl_m d) (gopt (e := (.invokevirtual 48, 3, 158, 1, 0)) gt205 rfl) rfl rfl rfl rfl rfl
set_option maxRecDepth 100000 in
theorem u205_415 : gR (gcl d) X 205 415 [l0, l1, l2, l3] (.int y :: .int x :: st) sh M kc ks Q = ((x = y → gR (gcl d) X 205 1222 [l0, l1, l2, l3] st sh M kc ks Q) ∧ (¬ x = y → gR (gcl d) X 205 418 [l0, l1, l2, l3] st sh M kc ks Q)) := x_icmp_eq (gcl_m d) (gopt (e := (.if_icmp .eq 807, 3, 1222, 0, 0)) gt205 rfl) rfl
set_option maxRecDepth 100000 in
theorem u205_418 : gR (gcl d) X 205 418 [l0, l1, l2, l3] st sh M kc ks Q = gR (gcl d) X 205 419 [l0, l1, l2, l3] (.int (nI 0) :: st) sh M kc ks Q := x_iconst (gcl_m d) (gopt (e := (.iconst 0, 1, 0, 0, 0)) gt205 rfl) (by decide) rfl
set_option maxRecDepth 100000 in
theorem u205_419 : gR (gcl d) X 205 419 [l0, l1, l2, l3] [.int (nI 1)] sh M kc ks Q = (gfin 205 kc ks ∧ Q [.int (nI 1)] sh M) := x_retk (gcl_m d) (gopt (e := (.ireturn, 1, 0, 0, 0)) gt205 rfl) (Or.inr ⟨rfl, Or.inr (by decide)⟩)
set_option maxRecDepth 100000 in
theorem u205_420 : gR (gcl d) X 205 420 [l0, some (.ref o), l2, l3] st sh M kc ks Q = gR (gcl d) X 205 421 [l0, some (.ref o), l2, l3] (.ref o :: st) sh M kc ks Q := x_aload_n (gcl_m d) (gopt (e := (.aload_n 1, 1, 0, 0, 0)) gt205 rfl) rfl rfl
set_option maxRecDepth 100000 in
theorem u205_420f : gR (gcl d) X 205 420 [l0, some (.float fk), l2, l3] st sh M kc ks Q = gR (gcl d) X 205 421 [l0, some (.float fk), l2, l3] (.float fk :: st) sh M kc ks Q := x_aload_nf (gcl_m d) (gopt (e := (.aload_n 1, 1, 0, 0, 0)) gt205 rfl) rfl rfl
set_option maxRecDepth 100000 in
theorem u205_421 : gR (gcl d) X 205 421 [some (.ref o), l1, l2, l3] st sh M kc ks Q = gR (gcl d) X 205 422 [some (.ref o), l1, l2, l3] (.ref o :: st) sh M kc ks Q := x_aload_n (gcl_m d) (gopt (e := (.aload_n 0, 1, 0, 0, 0)) gt205 rfl) rfl rfl
set_option maxRecDepth 100000 in
theorem u205_421f : gR (gcl d) X 205 421 [some (.float fk), l1, l2, l3] st sh M kc ks Q = gR (gcl d) X 205 422 [some (.float fk), l1, l2, l3] (.float fk :: st) sh M kc ks Q := x_aload_nf (gcl_m d) (gopt (e := (.aload_n 0, 1, 0, 0, 0)) gt205 rfl) rfl rfl
set_option maxRecDepth 100000 in
theorem u205_422 : gR (gcl d) X 205 422 [l0, l1, l2, some (.int x)] st sh M kc ks Q = gR (gcl d) X 205 423 [l0, l1, l2, some (.int x)] (.int x :: st) sh M kc ks Q := x_iload_n (gcl_m d) (gopt (e := (.iload_n 3, 1, 0, 0, 0)) gt205 rfl) rfl rfl
set_option maxRecDepth 100000 in
theorem u205_423 : gR (gcl d) X 205 423 [l0, l1, l2, l3] st sh M kc ks Q = gR (gcl d) X 205 424 [l0, l1, l2, l3] (.int (nI 1) :: st) sh M kc ks Q := x_iconst (gcl_m d) (gopt (e := (.iconst 1, 1, 0, 0, 0)) gt205 rfl) (by decide) rfl
set_option maxRecDepth 100000 in
theorem u205_424 : gR (gcl d) X 205 424 [l0, l1, l2, l3] (.int y :: .int x :: st) sh M kc ks Q = gR (gcl d) X 205 425 [l0, l1, l2, l3] (.int (x + y) :: st) sh M kc ks Q := x_iadd (gcl_m d) (gopt (e := (.iadd, 1, 0, 0, 0)) gt205 rfl) rfl
set_option maxRecDepth 100000 in
theorem u205_425 : gR (gcl d) X 205 425 [l0, l1, l2, l3] (.int x :: .float fk :: st) sh M kc ks Q = (vp_in x (gro 205 X fk).1 ∧ gR (gcl d) X 205 426 [l0, l1, l2, l3] (.int ((gro 205 X fk).2 x.toNatClampNeg) :: st) sh M kc ks Q) := x_iaro (gcl_m d) (gopt (e := (.iaload, 1, 0, 0, 0)) gt205 rfl) rfl
set_option maxRecDepth 100000 in
theorem u205_426 : gR (gcl d) X 205 426 [some (.ref o), l1, l2, l3] st sh M kc ks Q = gR (gcl d) X 205 427 [some (.ref o), l1, l2, l3] (.ref o :: st) sh M kc ks Q := x_aload_n (gcl_m d) (gopt (e := (.aload_n 0, 1, 0, 0, 0)) gt205 rfl) rfl rfl
set_option maxRecDepth 100000 in
theorem u205_426f : gR (gcl d) X 205 426 [some (.float fk), l1, l2, l3] st sh M kc ks Q = gR (gcl d) X 205 427 [some (.float fk), l1, l2, l3] (.float fk :: st) sh M kc ks Q := x_aload_nf (gcl_m d) (gopt (e := (.aload_n 0, 1, 0, 0, 0)) gt205 rfl) rfl rfl
set_option maxRecDepth 100000 in
theorem u205_427 : gR (gcl d) X 205 427 [l0, l1, l2, some (.int x)] st sh M kc ks Q = gR (gcl d) X 205 428 [l0, l1, l2, some (.int x)] (.int x :: st) sh M kc ks Q := x_iload_n (gcl_m d) (gopt (e := (.iload_n 3, 1, 0, 0, 0)) gt205 rfl) rfl rfl
set_option maxRecDepth 100000 in
theorem u205_428 : gR (gcl d) X 205 428 [l0, l1, l2, l3] st sh M kc ks Q = gR (gcl d) X 205 429 [l0, l1, l2, l3] (.int (nI 2) :: st) sh M kc ks Q := x_iconst (gcl_m d) (gopt (e := (.iconst 2, 1, 0, 0, 0)) gt205 rfl) (by decide) rfl
set_option maxRecDepth 100000 in
theorem u205_429 : gR (gcl d) X 205 429 [l0, l1, l2, l3] (.int y :: .int x :: st) sh M kc ks Q = gR (gcl d) X 205 430 [l0, l1, l2, l3] (.int (x + y) :: st) sh M kc ks Q := x_iadd (gcl_m d) (gopt (e := (.iadd, 1, 0, 0, 0)) gt205 rfl) rfl
set_option maxRecDepth 100000 in
theorem u205_430 : gR (gcl d) X 205 430 [l0, l1, l2, l3] (.int x :: .float fk :: st) sh M kc ks Q = (vp_in x (gro 205 X fk).1 ∧ gR (gcl d) X 205 431 [l0, l1, l2, l3] (.int ((gro 205 X fk).2 x.toNatClampNeg) :: st) sh M kc ks Q) := x_iaro (gcl_m d) (gopt (e := (.iaload, 1, 0, 0, 0)) gt205 rfl) rfl
set_option maxRecDepth 100000 in
theorem u205_431 : gR (gcl d) X 205 431 [l0, l1, l2, l3] (v2 :: v1 :: .ref o :: st) sh M kc ks Q = ((gci sh o = some 6 ∧ st.length ≤ 4 ∧ gro1 205 kc ks 0 0) ∧ gcl d 83 [.ref o, v1, v2] sh M fun v sh2 M2 => gR (gcl d) X 205 434 [l0, l1, l2, l3] (v ++ st) sh2 M2 kc ks Q) := x_virtk (gcl_m d) (gopt (e := (.invokevirtual 49, 3, 83, 2, 0)) gt205 rfl) rfl rfl rfl rfl rfl
set_option maxRecDepth 100000 in
theorem u205_434 : gR (gcl d) X 205 434 [l0, l1, some (.ref o), l3] st sh M kc ks Q = gR (gcl d) X 205 435 [l0, l1, some (.ref o), l3] (.ref o :: st) sh M kc ks Q := x_aload_n (gcl_m d) (gopt (e := (.aload_n 2, 1, 0, 0, 0)) gt205 rfl) rfl rfl
set_option maxRecDepth 100000 in
theorem u205_434f : gR (gcl d) X 205 434 [l0, l1, some (.float fk), l3] st sh M kc ks Q = gR (gcl d) X 205 435 [l0, l1, some (.float fk), l3] (.float fk :: st) sh M kc ks Q := x_aload_nf (gcl_m d) (gopt (e := (.aload_n 2, 1, 0, 0, 0)) gt205 rfl) rfl rfl
set_option maxRecDepth 100000 in
theorem u205_435 : gR (gcl d) X 205 435 [some (.ref o), l1, l2, l3] st sh M kc ks Q = gR (gcl d) X 205 436 [some (.ref o), l1, l2, l3] (.ref o :: st) sh M kc ks Q := x_aload_n (gcl_m d) (gopt (e := (.aload_n 0, 1, 0, 0, 0)) gt205 rfl) rfl rfl
set_option maxRecDepth 100000 in
theorem u205_435f : gR (gcl d) X 205 435 [some (.float fk), l1, l2, l3] st sh M kc ks Q = gR (gcl d) X 205 436 [some (.float fk), l1, l2, l3] (.float fk :: st) sh M kc ks Q := x_aload_nf (gcl_m d) (gopt (e := (.aload_n 0, 1, 0, 0, 0)) gt205 rfl) rfl rfl
set_option maxRecDepth 100000 in
theorem u205_436 : gR (gcl d) X 205 436 [l0, l1, l2, some (.int x)] st sh M kc ks Q = gR (gcl d) X 205 437 [l0, l1, l2, some (.int x)] (.int x :: st) sh M kc ks Q := x_iload_n (gcl_m d) (gopt (e := (.iload_n 3, 1, 0, 0, 0)) gt205 rfl) rfl rfl
set_option maxRecDepth 100000 in
theorem u205_437 : gR (gcl d) X 205 437 [l0, l1, l2, l3] st sh M kc ks Q = gR (gcl d) X 205 438 [l0, l1, l2, l3] (.int (nI 1) :: st) sh M kc ks Q := x_iconst (gcl_m d) (gopt (e := (.iconst 1, 1, 0, 0, 0)) gt205 rfl) (by decide) rfl
set_option maxRecDepth 100000 in
theorem u205_438 : gR (gcl d) X 205 438 [l0, l1, l2, l3] (.int y :: .int x :: st) sh M kc ks Q = gR (gcl d) X 205 439 [l0, l1, l2, l3] (.int (x + y) :: st) sh M kc ks Q := x_iadd (gcl_m d) (gopt (e := (.iadd, 1, 0, 0, 0)) gt205 rfl) rfl
set_option maxRecDepth 100000 in
theorem u205_439 : gR (gcl d) X 205 439 [l0, l1, l2, l3] (.int x :: .float fk :: st) sh M kc ks Q = (vp_in x (gro 205 X fk).1 ∧ gR (gcl d) X 205 440 [l0, l1, l2, l3] (.int ((gro 205 X fk).2 x.toNatClampNeg) :: st) sh M kc ks Q) := x_iaro (gcl_m d) (gopt (e := (.iaload, 1, 0, 0, 0)) gt205 rfl) rfl
set_option maxRecDepth 100000 in
theorem u205_440 : gR (gcl d) X 205 440 [some (.ref o), l1, l2, l3] st sh M kc ks Q = gR (gcl d) X 205 441 [some (.ref o), l1, l2, l3] (.ref o :: st) sh M kc ks Q := x_aload_n (gcl_m d) (gopt (e := (.aload_n 0, 1, 0, 0, 0)) gt205 rfl) rfl rfl
set_option maxRecDepth 100000 in
theorem u205_440f : gR (gcl d) X 205 440 [some (.float fk), l1, l2, l3] st sh M kc ks Q = gR (gcl d) X 205 441 [some (.float fk), l1, l2, l3] (.float fk :: st) sh M kc ks Q := x_aload_nf (gcl_m d) (gopt (e := (.aload_n 0, 1, 0, 0, 0)) gt205 rfl) rfl rfl
set_option maxRecDepth 100000 in
theorem u205_441 : gR (gcl d) X 205 441 [l0, l1, l2, some (.int x)] st sh M kc ks Q = gR (gcl d) X 205 442 [l0, l1, l2, some (.int x)] (.int x :: st) sh M kc ks Q := x_iload_n (gcl_m d) (gopt (e := (.iload_n 3, 1, 0, 0, 0)) gt205 rfl) rfl rfl
set_option maxRecDepth 100000 in
theorem u205_442 : gR (gcl d) X 205 442 [l0, l1, l2, l3] st sh M kc ks Q = gR (gcl d) X 205 443 [l0, l1, l2, l3] (.int (nI 2) :: st) sh M kc ks Q := x_iconst (gcl_m d) (gopt (e := (.iconst 2, 1, 0, 0, 0)) gt205 rfl) (by decide) rfl
set_option maxRecDepth 100000 in
theorem u205_443 : gR (gcl d) X 205 443 [l0, l1, l2, l3] (.int y :: .int x :: st) sh M kc ks Q = gR (gcl d) X 205 444 [l0, l1, l2, l3] (.int (x + y) :: st) sh M kc ks Q := x_iadd (gcl_m d) (gopt (e := (.iadd, 1, 0, 0, 0)) gt205 rfl) rfl
set_option maxRecDepth 100000 in
theorem u205_444 : gR (gcl d) X 205 444 [l0, l1, l2, l3] (.int x :: .float fk :: st) sh M kc ks Q = (vp_in x (gro 205 X fk).1 ∧ gR (gcl d) X 205 445 [l0, l1, l2, l3] (.int ((gro 205 X fk).2 x.toNatClampNeg) :: st) sh M kc ks Q) := x_iaro (gcl_m d) (gopt (e := (.iaload, 1, 0, 0, 0)) gt205 rfl) rfl
set_option maxRecDepth 100000 in
theorem u205_445 : gR (gcl d) X 205 445 [l0, l1, l2, l3] (v2 :: v1 :: .ref o :: st) sh M kc ks Q = ((gci sh o = some 7 ∧ st.length ≤ 4 ∧ gro1 205 kc ks 0 0) ∧ gcl d 161 [.ref o, v1, v2] sh M fun v sh2 M2 => gR (gcl d) X 205 448 [l0, l1, l2, l3] (v ++ st) sh2 M2 kc ks Q) := x_virtk (gcl_m d) (gopt (e := (.invokevirtual 53, 3, 161, 2, 0)) gt205 rfl) rfl rfl rfl rfl rfl
set_option maxRecDepth 100000 in
theorem u205_448 : gR (gcl d) X 205 448 [l0, l1, l2, l3] (.int y :: .int x :: st) sh M kc ks Q = ((x = y → gR (gcl d) X 205 1222 [l0, l1, l2, l3] st sh M kc ks Q) ∧ (¬ x = y → gR (gcl d) X 205 451 [l0, l1, l2, l3] st sh M kc ks Q)) := x_icmp_eq (gcl_m d) (gopt (e := (.if_icmp .eq 774, 3, 1222, 0, 0)) gt205 rfl) rfl
set_option maxRecDepth 100000 in
theorem u205_451 : gR (gcl d) X 205 451 [l0, l1, l2, l3] st sh M kc ks Q = gR (gcl d) X 205 452 [l0, l1, l2, l3] (.int (nI 0) :: st) sh M kc ks Q := x_iconst (gcl_m d) (gopt (e := (.iconst 0, 1, 0, 0, 0)) gt205 rfl) (by decide) rfl
set_option maxRecDepth 100000 in
theorem u205_452 : gR (gcl d) X 205 452 [l0, l1, l2, l3] [.int (nI 1)] sh M kc ks Q = (gfin 205 kc ks ∧ Q [.int (nI 1)] sh M) := x_retk (gcl_m d) (gopt (e := (.ireturn, 1, 0, 0, 0)) gt205 rfl) (Or.inr ⟨rfl, Or.inr (by decide)⟩)
set_option maxRecDepth 100000 in
theorem u205_453 : gR (gcl d) X 205 453 [l0, some (.ref o), l2, l3] st sh M kc ks Q = gR (gcl d) X 205 454 [l0, some (.ref o), l2, l3] (.ref o :: st) sh M kc ks Q := x_aload_n (gcl_m d) (gopt (e := (.aload_n 1, 1, 0, 0, 0)) gt205 rfl) rfl rfl
set_option maxRecDepth 100000 in
theorem u205_453f : gR (gcl d) X 205 453 [l0, some (.float fk), l2, l3] st sh M kc ks Q = gR (gcl d) X 205 454 [l0, some (.float fk), l2, l3] (.float fk :: st) sh M kc ks Q := x_aload_nf (gcl_m d) (gopt (e := (.aload_n 1, 1, 0, 0, 0)) gt205 rfl) rfl rfl
set_option maxRecDepth 100000 in
theorem u205_454 : gR (gcl d) X 205 454 [some (.ref o), l1, l2, l3] st sh M kc ks Q = gR (gcl d) X 205 455 [some (.ref o), l1, l2, l3] (.ref o :: st) sh M kc ks Q := x_aload_n (gcl_m d) (gopt (e := (.aload_n 0, 1, 0, 0, 0)) gt205 rfl) rfl rfl
set_option maxRecDepth 100000 in
theorem u205_454f : gR (gcl d) X 205 454 [some (.float fk), l1, l2, l3] st sh M kc ks Q = gR (gcl d) X 205 455 [some (.float fk), l1, l2, l3] (.float fk :: st) sh M kc ks Q := x_aload_nf (gcl_m d) (gopt (e := (.aload_n 0, 1, 0, 0, 0)) gt205 rfl) rfl rfl
set_option maxRecDepth 100000 in
theorem u205_455 : gR (gcl d) X 205 455 [l0, l1, l2, some (.int x)] st sh M kc ks Q = gR (gcl d) X 205 456 [l0, l1, l2, some (.int x)] (.int x :: st) sh M kc ks Q := x_iload_n (gcl_m d) (gopt (e := (.iload_n 3, 1, 0, 0, 0)) gt205 rfl) rfl rfl
set_option maxRecDepth 100000 in
theorem u205_456 : gR (gcl d) X 205 456 [l0, l1, l2, l3] st sh M kc ks Q = gR (gcl d) X 205 457 [l0, l1, l2, l3] (.int (nI 1) :: st) sh M kc ks Q := x_iconst (gcl_m d) (gopt (e := (.iconst 1, 1, 0, 0, 0)) gt205 rfl) (by decide) rfl
set_option maxRecDepth 100000 in
theorem u205_457 : gR (gcl d) X 205 457 [l0, l1, l2, l3] (.int y :: .int x :: st) sh M kc ks Q = gR (gcl d) X 205 458 [l0, l1, l2, l3] (.int (x + y) :: st) sh M kc ks Q := x_iadd (gcl_m d) (gopt (e := (.iadd, 1, 0, 0, 0)) gt205 rfl) rfl
set_option maxRecDepth 100000 in
theorem u205_458 : gR (gcl d) X 205 458 [l0, l1, l2, l3] (.int x :: .float fk :: st) sh M kc ks Q = (vp_in x (gro 205 X fk).1 ∧ gR (gcl d) X 205 459 [l0, l1, l2, l3] (.int ((gro 205 X fk).2 x.toNatClampNeg) :: st) sh M kc ks Q) := x_iaro (gcl_m d) (gopt (e := (.iaload, 1, 0, 0, 0)) gt205 rfl) rfl
set_option maxRecDepth 100000 in
theorem u205_459 : gR (gcl d) X 205 459 [l0, l1, l2, l3] (v1 :: .ref o :: st) sh M kc ks Q = ((gci sh o = some 6 ∧ st.length ≤ 4 ∧ gro1 205 kc ks 0 0) ∧ gcl d 84 [.ref o, v1] sh M fun v sh2 M2 => gR (gcl d) X 205 462 [l0, l1, l2, l3] (v ++ st) sh2 M2 kc ks Q) := x_virtk (gcl_m d) (gopt (e := (.invokevirtual 54, 3, 84, 1, 0)) gt205 rfl) rfl rfl rfl rfl rfl
set_option maxRecDepth 100000 in
theorem u205_462 : gR (gcl d) X 205 462 [l0, l1, some (.ref o), l3] st sh M kc ks Q = gR (gcl d) X 205 463 [l0, l1, some (.ref o), l3] (.ref o :: st) sh M kc ks Q := x_aload_n (gcl_m d) (gopt (e := (.aload_n 2, 1, 0, 0, 0)) gt205 rfl) rfl rfl
set_option maxRecDepth 100000 in
theorem u205_462f : gR (gcl d) X 205 462 [l0, l1, some (.float fk), l3] st sh M kc ks Q = gR (gcl d) X 205 463 [l0, l1, some (.float fk), l3] (.float fk :: st) sh M kc ks Q := x_aload_nf (gcl_m d) (gopt (e := (.aload_n 2, 1, 0, 0, 0)) gt205 rfl) rfl rfl
set_option maxRecDepth 100000 in
theorem u205_463 : gR (gcl d) X 205 463 [some (.ref o), l1, l2, l3] st sh M kc ks Q = gR (gcl d) X 205 464 [some (.ref o), l1, l2, l3] (.ref o :: st) sh M kc ks Q := x_aload_n (gcl_m d) (gopt (e := (.aload_n 0, 1, 0, 0, 0)) gt205 rfl) rfl rfl
set_option maxRecDepth 100000 in
theorem u205_463f : gR (gcl d) X 205 463 [some (.float fk), l1, l2, l3] st sh M kc ks Q = gR (gcl d) X 205 464 [some (.float fk), l1, l2, l3] (.float fk :: st) sh M kc ks Q := x_aload_nf (gcl_m d) (gopt (e := (.aload_n 0, 1, 0, 0, 0)) gt205 rfl) rfl rfl
set_option maxRecDepth 100000 in
theorem u205_464 : gR (gcl d) X 205 464 [l0, l1, l2, some (.int x)] st sh M kc ks Q = gR (gcl d) X 205 465 [l0, l1, l2, some (.int x)] (.int x :: st) sh M kc ks Q := x_iload_n (gcl_m d) (gopt (e := (.iload_n 3, 1, 0, 0, 0)) gt205 rfl) rfl rfl
set_option maxRecDepth 100000 in
theorem u205_465 : gR (gcl d) X 205 465 [l0, l1, l2, l3] st sh M kc ks Q = gR (gcl d) X 205 466 [l0, l1, l2, l3] (.int (nI 1) :: st) sh M kc ks Q := x_iconst (gcl_m d) (gopt (e := (.iconst 1, 1, 0, 0, 0)) gt205 rfl) (by decide) rfl
set_option maxRecDepth 100000 in
theorem u205_466 : gR (gcl d) X 205 466 [l0, l1, l2, l3] (.int y :: .int x :: st) sh M kc ks Q = gR (gcl d) X 205 467 [l0, l1, l2, l3] (.int (x + y) :: st) sh M kc ks Q := x_iadd (gcl_m d) (gopt (e := (.iadd, 1, 0, 0, 0)) gt205 rfl) rfl
set_option maxRecDepth 100000 in
theorem u205_467 : gR (gcl d) X 205 467 [l0, l1, l2, l3] (.int x :: .float fk :: st) sh M kc ks Q = (vp_in x (gro 205 X fk).1 ∧ gR (gcl d) X 205 468 [l0, l1, l2, l3] (.int ((gro 205 X fk).2 x.toNatClampNeg) :: st) sh M kc ks Q) := x_iaro (gcl_m d) (gopt (e := (.iaload, 1, 0, 0, 0)) gt205 rfl) rfl
set_option maxRecDepth 100000 in
theorem u205_468 : gR (gcl d) X 205 468 [l0, l1, l2, l3] (v1 :: .ref o :: st) sh M kc ks Q = ((gci sh o = some 7 ∧ st.length ≤ 4 ∧ gro1 205 kc ks 0 0) ∧ gcl d 162 [.ref o, v1] sh M fun v sh2 M2 => gR (gcl d) X 205 471 [l0, l1, l2, l3] (v ++ st) sh2 M2 kc ks Q) := x_virtk (gcl_m d) (gopt (e := (.invokevirtual 57, 3, 162, 1, 0)) gt205 rfl) rfl rfl rfl rfl rfl
set_option maxRecDepth 100000 in
theorem u205_471 : gR (gcl d) X 205 471 [l0, l1, l2, l3] (.int y :: .int x :: st) sh M kc ks Q = ((x = y → gR (gcl d) X 205 1222 [l0, l1, l2, l3] st sh M kc ks Q) ∧ (¬ x = y → gR (gcl d) X 205 474 [l0, l1, l2, l3] st sh M kc ks Q)) := x_icmp_eq (gcl_m d) (gopt (e := (.if_icmp .eq 751, 3, 1222, 0, 0)) gt205 rfl) rfl
set_option maxRecDepth 100000 in
theorem u205_474 : gR (gcl d) X 205 474 [l0, l1, l2, l3] st sh M kc ks Q = gR (gcl d) X 205 475 [l0, l1, l2, l3] (.int (nI 0) :: st) sh M kc ks Q := x_iconst (gcl_m d) (gopt (e := (.iconst 0, 1, 0, 0, 0)) gt205 rfl) (by decide) rfl
set_option maxRecDepth 100000 in
theorem u205_475 : gR (gcl d) X 205 475 [l0, l1, l2, l3] [.int (nI 1)] sh M kc ks Q = (gfin 205 kc ks ∧ Q [.int (nI 1)] sh M) := x_retk (gcl_m d) (gopt (e := (.ireturn, 1, 0, 0, 0)) gt205 rfl) (Or.inr ⟨rfl, Or.inr (by decide)⟩)
set_option maxRecDepth 100000 in
theorem u205_476 : gR (gcl d) X 205 476 [l0, some (.ref o), l2, l3] st sh M kc ks Q = gR (gcl d) X 205 477 [l0, some (.ref o), l2, l3] (.ref o :: st) sh M kc ks Q := x_aload_n (gcl_m d) (gopt (e := (.aload_n 1, 1, 0, 0, 0)) gt205 rfl) rfl rfl
set_option maxRecDepth 100000 in
theorem u205_476f : gR (gcl d) X 205 476 [l0, some (.float fk), l2, l3] st sh M kc ks Q = gR (gcl d) X 205 477 [l0, some (.float fk), l2, l3] (.float fk :: st) sh M kc ks Q := x_aload_nf (gcl_m d) (gopt (e := (.aload_n 1, 1, 0, 0, 0)) gt205 rfl) rfl rfl
set_option maxRecDepth 100000 in
theorem u205_477 : gR (gcl d) X 205 477 [some (.ref o), l1, l2, l3] st sh M kc ks Q = gR (gcl d) X 205 478 [some (.ref o), l1, l2, l3] (.ref o :: st) sh M kc ks Q := x_aload_n (gcl_m d) (gopt (e := (.aload_n 0, 1, 0, 0, 0)) gt205 rfl) rfl rfl
set_option maxRecDepth 100000 in
theorem u205_477f : gR (gcl d) X 205 477 [some (.float fk), l1, l2, l3] st sh M kc ks Q = gR (gcl d) X 205 478 [some (.float fk), l1, l2, l3] (.float fk :: st) sh M kc ks Q := x_aload_nf (gcl_m d) (gopt (e := (.aload_n 0, 1, 0, 0, 0)) gt205 rfl) rfl rfl
set_option maxRecDepth 100000 in
theorem u205_478 : gR (gcl d) X 205 478 [l0, l1, l2, some (.int x)] st sh M kc ks Q = gR (gcl d) X 205 479 [l0, l1, l2, some (.int x)] (.int x :: st) sh M kc ks Q := x_iload_n (gcl_m d) (gopt (e := (.iload_n 3, 1, 0, 0, 0)) gt205 rfl) rfl rfl
set_option maxRecDepth 100000 in
theorem u205_479 : gR (gcl d) X 205 479 [l0, l1, l2, l3] st sh M kc ks Q = gR (gcl d) X 205 480 [l0, l1, l2, l3] (.int (nI 1) :: st) sh M kc ks Q := x_iconst (gcl_m d) (gopt (e := (.iconst 1, 1, 0, 0, 0)) gt205 rfl) (by decide) rfl
set_option maxRecDepth 100000 in
theorem u205_480 : gR (gcl d) X 205 480 [l0, l1, l2, l3] (.int y :: .int x :: st) sh M kc ks Q = gR (gcl d) X 205 481 [l0, l1, l2, l3] (.int (x + y) :: st) sh M kc ks Q := x_iadd (gcl_m d) (gopt (e := (.iadd, 1, 0, 0, 0)) gt205 rfl) rfl
set_option maxRecDepth 100000 in
theorem u205_481 : gR (gcl d) X 205 481 [l0, l1, l2, l3] (.int x :: .float fk :: st) sh M kc ks Q = (vp_in x (gro 205 X fk).1 ∧ gR (gcl d) X 205 482 [l0, l1, l2, l3] (.int ((gro 205 X fk).2 x.toNatClampNeg) :: st) sh M kc ks Q) := x_iaro (gcl_m d) (gopt (e := (.iaload, 1, 0, 0, 0)) gt205 rfl) rfl
set_option maxRecDepth 100000 in
theorem u205_482 : gR (gcl d) X 205 482 [some (.ref o), l1, l2, l3] st sh M kc ks Q = gR (gcl d) X 205 483 [some (.ref o), l1, l2, l3] (.ref o :: st) sh M kc ks Q := x_aload_n (gcl_m d) (gopt (e := (.aload_n 0, 1, 0, 0, 0)) gt205 rfl) rfl rfl
set_option maxRecDepth 100000 in
theorem u205_482f : gR (gcl d) X 205 482 [some (.float fk), l1, l2, l3] st sh M kc ks Q = gR (gcl d) X 205 483 [some (.float fk), l1, l2, l3] (.float fk :: st) sh M kc ks Q := x_aload_nf (gcl_m d) (gopt (e := (.aload_n 0, 1, 0, 0, 0)) gt205 rfl) rfl rfl
set_option maxRecDepth 100000 in
theorem u205_483 : gR (gcl d) X 205 483 [l0, l1, l2, some (.int x)] st sh M kc ks Q = gR (gcl d) X 205 484 [l0, l1, l2, some (.int x)] (.int x :: st) sh M kc ks Q := x_iload_n (gcl_m d) (gopt (e := (.iload_n 3, 1, 0, 0, 0)) gt205 rfl) rfl rfl
set_option maxRecDepth 100000 in
theorem u205_484 : gR (gcl d) X 205 484 [l0, l1, l2, l3] st sh M kc ks Q = gR (gcl d) X 205 485 [l0, l1, l2, l3] (.int (nI 2) :: st) sh M kc ks Q := x_iconst (gcl_m d) (gopt (e := (.iconst 2, 1, 0, 0, 0)) gt205 rfl) (by decide) rfl
set_option maxRecDepth 100000 in
theorem u205_485 : gR (gcl d) X 205 485 [l0, l1, l2, l3] (.int y :: .int x :: st) sh M kc ks Q = gR (gcl d) X 205 486 [l0, l1, l2, l3] (.int (x + y) :: st) sh M kc ks Q := x_iadd (gcl_m d) (gopt (e := (.iadd, 1, 0, 0, 0)) gt205 rfl) rfl
set_option maxRecDepth 100000 in
theorem u205_486 : gR (gcl d) X 205 486 [l0, l1, l2, l3] (.int x :: .float fk :: st) sh M kc ks Q = (vp_in x (gro 205 X fk).1 ∧ gR (gcl d) X 205 487 [l0, l1, l2, l3] (.int ((gro 205 X fk).2 x.toNatClampNeg) :: st) sh M kc ks Q) := x_iaro (gcl_m d) (gopt (e := (.iaload, 1, 0, 0, 0)) gt205 rfl) rfl
set_option maxRecDepth 100000 in
theorem u205_487 : gR (gcl d) X 205 487 [l0, l1, l2, l3] (v2 :: v1 :: .ref o :: st) sh M kc ks Q = ((gci sh o = some 6 ∧ st.length ≤ 4 ∧ gro1 205 kc ks 0 0) ∧ gcl d 85 [.ref o, v1, v2] sh M fun v sh2 M2 => gR (gcl d) X 205 490 [l0, l1, l2, l3] (v ++ st) sh2 M2 kc ks Q) := x_virtk (gcl_m d) (gopt (e := (.invokevirtual 58, 3, 85, 2, 0)) gt205 rfl) rfl rfl rfl rfl rfl
set_option maxRecDepth 100000 in
theorem u205_490 : gR (gcl d) X 205 490 [l0, l1, some (.ref o), l3] st sh M kc ks Q = gR (gcl d) X 205 491 [l0, l1, some (.ref o), l3] (.ref o :: st) sh M kc ks Q := x_aload_n (gcl_m d) (gopt (e := (.aload_n 2, 1, 0, 0, 0)) gt205 rfl) rfl rfl
set_option maxRecDepth 100000 in
theorem u205_490f : gR (gcl d) X 205 490 [l0, l1, some (.float fk), l3] st sh M kc ks Q = gR (gcl d) X 205 491 [l0, l1, some (.float fk), l3] (.float fk :: st) sh M kc ks Q := x_aload_nf (gcl_m d) (gopt (e := (.aload_n 2, 1, 0, 0, 0)) gt205 rfl) rfl rfl
set_option maxRecDepth 100000 in
theorem u205_491 : gR (gcl d) X 205 491 [some (.ref o), l1, l2, l3] st sh M kc ks Q = gR (gcl d) X 205 492 [some (.ref o), l1, l2, l3] (.ref o :: st) sh M kc ks Q := x_aload_n (gcl_m d) (gopt (e := (.aload_n 0, 1, 0, 0, 0)) gt205 rfl) rfl rfl
set_option maxRecDepth 100000 in
theorem u205_491f : gR (gcl d) X 205 491 [some (.float fk), l1, l2, l3] st sh M kc ks Q = gR (gcl d) X 205 492 [some (.float fk), l1, l2, l3] (.float fk :: st) sh M kc ks Q := x_aload_nf (gcl_m d) (gopt (e := (.aload_n 0, 1, 0, 0, 0)) gt205 rfl) rfl rfl
set_option maxRecDepth 100000 in
theorem u205_492 : gR (gcl d) X 205 492 [l0, l1, l2, some (.int x)] st sh M kc ks Q = gR (gcl d) X 205 493 [l0, l1, l2, some (.int x)] (.int x :: st) sh M kc ks Q := x_iload_n (gcl_m d) (gopt (e := (.iload_n 3, 1, 0, 0, 0)) gt205 rfl) rfl rfl
set_option maxRecDepth 100000 in
theorem u205_493 : gR (gcl d) X 205 493 [l0, l1, l2, l3] st sh M kc ks Q = gR (gcl d) X 205 494 [l0, l1, l2, l3] (.int (nI 1) :: st) sh M kc ks Q := x_iconst (gcl_m d) (gopt (e := (.iconst 1, 1, 0, 0, 0)) gt205 rfl) (by decide) rfl
set_option maxRecDepth 100000 in
theorem u205_494 : gR (gcl d) X 205 494 [l0, l1, l2, l3] (.int y :: .int x :: st) sh M kc ks Q = gR (gcl d) X 205 495 [l0, l1, l2, l3] (.int (x + y) :: st) sh M kc ks Q := x_iadd (gcl_m d) (gopt (e := (.iadd, 1, 0, 0, 0)) gt205 rfl) rfl
set_option maxRecDepth 100000 in
theorem u205_495 : gR (gcl d) X 205 495 [l0, l1, l2, l3] (.int x :: .float fk :: st) sh M kc ks Q = (vp_in x (gro 205 X fk).1 ∧ gR (gcl d) X 205 496 [l0, l1, l2, l3] (.int ((gro 205 X fk).2 x.toNatClampNeg) :: st) sh M kc ks Q) := x_iaro (gcl_m d) (gopt (e := (.iaload, 1, 0, 0, 0)) gt205 rfl) rfl
set_option maxRecDepth 100000 in
theorem u205_496 : gR (gcl d) X 205 496 [some (.ref o), l1, l2, l3] st sh M kc ks Q = gR (gcl d) X 205 497 [some (.ref o), l1, l2, l3] (.ref o :: st) sh M kc ks Q := x_aload_n (gcl_m d) (gopt (e := (.aload_n 0, 1, 0, 0, 0)) gt205 rfl) rfl rfl
set_option maxRecDepth 100000 in
theorem u205_496f : gR (gcl d) X 205 496 [some (.float fk), l1, l2, l3] st sh M kc ks Q = gR (gcl d) X 205 497 [some (.float fk), l1, l2, l3] (.float fk :: st) sh M kc ks Q := x_aload_nf (gcl_m d) (gopt (e := (.aload_n 0, 1, 0, 0, 0)) gt205 rfl) rfl rfl
set_option maxRecDepth 100000 in
theorem u205_497 : gR (gcl d) X 205 497 [l0, l1, l2, some (.int x)] st sh M kc ks Q = gR (gcl d) X 205 498 [l0, l1, l2, some (.int x)] (.int x :: st) sh M kc ks Q := x_iload_n (gcl_m d) (gopt (e := (.iload_n 3, 1, 0, 0, 0)) gt205 rfl) rfl rfl
set_option maxRecDepth 100000 in
theorem u205_498 : gR (gcl d) X 205 498 [l0, l1, l2, l3] st sh M kc ks Q = gR (gcl d) X 205 499 [l0, l1, l2, l3] (.int (nI 2) :: st) sh M kc ks Q := x_iconst (gcl_m d) (gopt (e := (.iconst 2, 1, 0, 0, 0)) gt205 rfl) (by decide) rfl
set_option maxRecDepth 100000 in
theorem u205_499 : gR (gcl d) X 205 499 [l0, l1, l2, l3] (.int y :: .int x :: st) sh M kc ks Q = gR (gcl d) X 205 500 [l0, l1, l2, l3] (.int (x + y) :: st) sh M kc ks Q := x_iadd (gcl_m d) (gopt (e := (.iadd, 1, 0, 0, 0)) gt205 rfl) rfl
set_option maxRecDepth 100000 in
theorem u205_500 : gR (gcl d) X 205 500 [l0, l1, l2, l3] (.int x :: .float fk :: st) sh M kc ks Q = (vp_in x (gro 205 X fk).1 ∧ gR (gcl d) X 205 501 [l0, l1, l2, l3] (.int ((gro 205 X fk).2 x.toNatClampNeg) :: st) sh M kc ks Q) := x_iaro (gcl_m d) (gopt (e := (.iaload, 1, 0, 0, 0)) gt205 rfl) rfl
set_option maxRecDepth 100000 in
theorem u205_501 : gR (gcl d) X 205 501 [l0, l1, l2, l3] (v2 :: v1 :: .ref o :: st) sh M kc ks Q = ((gci sh o = some 7 ∧ st.length ≤ 4 ∧ gro1 205 kc ks 0 0) ∧ gcl d 163 [.ref o, v1, v2] sh M fun v sh2 M2 => gR (gcl d) X 205 504 [l0, l1, l2, l3] (v ++ st) sh2 M2 kc ks Q) := x_virtk (gcl_m d) (gopt (e := (.invokevirtual 61, 3, 163, 2, 0)) gt205 rfl) rfl rfl rfl rfl rfl
set_option maxRecDepth 100000 in
theorem u205_504 : gR (gcl d) X 205 504 [l0, l1, l2, l3] (.int y :: .int x :: st) sh M kc ks Q = ((x = y → gR (gcl d) X 205 1222 [l0, l1, l2, l3] st sh M kc ks Q) ∧ (¬ x = y → gR (gcl d) X 205 507 [l0, l1, l2, l3] st sh M kc ks Q)) := x_icmp_eq (gcl_m d) (gopt (e := (.if_icmp .eq 718, 3, 1222, 0, 0)) gt205 rfl) rfl
set_option maxRecDepth 100000 in
theorem u205_507 : gR (gcl d) X 205 507 [l0, l1, l2, l3] st sh M kc ks Q = gR (gcl d) X 205 508 [l0, l1, l2, l3] (.int (nI 0) :: st) sh M kc ks Q := x_iconst (gcl_m d) (gopt (e := (.iconst 0, 1, 0, 0, 0)) gt205 rfl) (by decide) rfl
set_option maxRecDepth 100000 in
theorem u205_508 : gR (gcl d) X 205 508 [l0, l1, l2, l3] [.int (nI 1)] sh M kc ks Q = (gfin 205 kc ks ∧ Q [.int (nI 1)] sh M) := x_retk (gcl_m d) (gopt (e := (.ireturn, 1, 0, 0, 0)) gt205 rfl) (Or.inr ⟨rfl, Or.inr (by decide)⟩)
set_option maxRecDepth 100000 in
theorem u205_509 : gR (gcl d) X 205 509 [l0, some (.ref o), l2, l3] st sh M kc ks Q = gR (gcl d) X 205 510 [l0, some (.ref o), l2, l3] (.ref o :: st) sh M kc ks Q := x_aload_n (gcl_m d) (gopt (e := (.aload_n 1, 1, 0, 0, 0)) gt205 rfl) rfl rfl
set_option maxRecDepth 100000 in
theorem u205_509f : gR (gcl d) X 205 509 [l0, some (.float fk), l2, l3] st sh M kc ks Q = gR (gcl d) X 205 510 [l0, some (.float fk), l2, l3] (.float fk :: st) sh M kc ks Q := x_aload_nf (gcl_m d) (gopt (e := (.aload_n 1, 1, 0, 0, 0)) gt205 rfl) rfl rfl
set_option maxRecDepth 100000 in
theorem u205_510 : gR (gcl d) X 205 510 [l0, l1, l2, l3] (.ref o :: st) sh M kc ks Q = ((gci sh o = some 6 ∧ st.length ≤ 4 ∧ gro1 205 kc ks 0 0) ∧ gcl d 86 [.ref o] sh M fun v sh2 M2 => gR (gcl d) X 205 513 [l0, l1, l2, l3] (v ++ st) sh2 M2 kc ks Q) := x_virtk (gcl_m d) (gopt (e := (.invokevirtual 62, 3, 86, 0, 0)) gt205 rfl) rfl rfl rfl rfl rfl
set_option maxRecDepth 100000 in
theorem u205_513 : gR (gcl d) X 205 513 [l0, l1, some (.ref o), l3] st sh M kc ks Q = gR (gcl d) X 205 514 [l0, l1, some (.ref o), l3] (.ref o :: st) sh M kc ks Q := x_aload_n (gcl_m d) (gopt (e := (.aload_n 2, 1, 0, 0, 0)) gt205 rfl) rfl rfl
set_option maxRecDepth 100000 in
theorem u205_513f : gR (gcl d) X 205 513 [l0, l1, some (.float fk), l3] st sh M kc ks Q = gR (gcl d) X 205 514 [l0, l1, some (.float fk), l3] (.float fk :: st) sh M kc ks Q := x_aload_nf (gcl_m d) (gopt (e := (.aload_n 2, 1, 0, 0, 0)) gt205 rfl) rfl rfl
set_option maxRecDepth 100000 in
theorem u205_514 : gR (gcl d) X 205 514 [l0, l1, l2, l3] (.ref o :: st) sh M kc ks Q = ((gci sh o = some 7 ∧ st.length ≤ 4 ∧ gro1 205 kc ks 0 0) ∧ gcl d 164 [.ref o] sh M fun v sh2 M2 => gR (gcl d) X 205 517 [l0, l1, l2, l3] (v ++ st) sh2 M2 kc ks Q) := x_virtk (gcl_m d) (gopt (e := (.invokevirtual 65, 3, 164, 0, 0)) gt205 rfl) rfl rfl rfl rfl rfl
set_option maxRecDepth 100000 in
theorem u205_517 : gR (gcl d) X 205 517 [l0, l1, l2, l3] (.int y :: .int x :: st) sh M kc ks Q = ((x = y → gR (gcl d) X 205 1222 [l0, l1, l2, l3] st sh M kc ks Q) ∧ (¬ x = y → gR (gcl d) X 205 520 [l0, l1, l2, l3] st sh M kc ks Q)) := x_icmp_eq (gcl_m d) (gopt (e := (.if_icmp .eq 705, 3, 1222, 0, 0)) gt205 rfl) rfl
set_option maxRecDepth 100000 in
theorem u205_520 : gR (gcl d) X 205 520 [l0, l1, l2, l3] st sh M kc ks Q = gR (gcl d) X 205 521 [l0, l1, l2, l3] (.int (nI 0) :: st) sh M kc ks Q := x_iconst (gcl_m d) (gopt (e := (.iconst 0, 1, 0, 0, 0)) gt205 rfl) (by decide) rfl
set_option maxRecDepth 100000 in
theorem u205_521 : gR (gcl d) X 205 521 [l0, l1, l2, l3] [.int (nI 1)] sh M kc ks Q = (gfin 205 kc ks ∧ Q [.int (nI 1)] sh M) := x_retk (gcl_m d) (gopt (e := (.ireturn, 1, 0, 0, 0)) gt205 rfl) (Or.inr ⟨rfl, Or.inr (by decide)⟩)
set_option maxRecDepth 100000 in
theorem u205_522 : gR (gcl d) X 205 522 [l0, some (.ref o), l2, l3] st sh M kc ks Q = gR (gcl d) X 205 523 [l0, some (.ref o), l2, l3] (.ref o :: st) sh M kc ks Q := x_aload_n (gcl_m d) (gopt (e := (.aload_n 1, 1, 0, 0, 0)) gt205 rfl) rfl rfl
set_option maxRecDepth 100000 in
theorem u205_522f : gR (gcl d) X 205 522 [l0, some (.float fk), l2, l3] st sh M kc ks Q = gR (gcl d) X 205 523 [l0, some (.float fk), l2, l3] (.float fk :: st) sh M kc ks Q := x_aload_nf (gcl_m d) (gopt (e := (.aload_n 1, 1, 0, 0, 0)) gt205 rfl) rfl rfl
set_option maxRecDepth 100000 in
theorem u205_523 : gR (gcl d) X 205 523 [some (.ref o), l1, l2, l3] st sh M kc ks Q = gR (gcl d) X 205 524 [some (.ref o), l1, l2, l3] (.ref o :: st) sh M kc ks Q := x_aload_n (gcl_m d) (gopt (e := (.aload_n 0, 1, 0, 0, 0)) gt205 rfl) rfl rfl
set_option maxRecDepth 100000 in
theorem u205_523f : gR (gcl d) X 205 523 [some (.float fk), l1, l2, l3] st sh M kc ks Q = gR (gcl d) X 205 524 [some (.float fk), l1, l2, l3] (.float fk :: st) sh M kc ks Q := x_aload_nf (gcl_m d) (gopt (e := (.aload_n 0, 1, 0, 0, 0)) gt205 rfl) rfl rfl
set_option maxRecDepth 100000 in
theorem u205_524 : gR (gcl d) X 205 524 [l0, l1, l2, some (.int x)] st sh M kc ks Q = gR (gcl d) X 205 525 [l0, l1, l2, some (.int x)] (.int x :: st) sh M kc ks Q := x_iload_n (gcl_m d) (gopt (e := (.iload_n 3, 1, 0, 0, 0)) gt205 rfl) rfl rfl
set_option maxRecDepth 100000 in
theorem u205_525 : gR (gcl d) X 205 525 [l0, l1, l2, l3] st sh M kc ks Q = gR (gcl d) X 205 526 [l0, l1, l2, l3] (.int (nI 1) :: st) sh M kc ks Q := x_iconst (gcl_m d) (gopt (e := (.iconst 1, 1, 0, 0, 0)) gt205 rfl) (by decide) rfl
set_option maxRecDepth 100000 in
theorem u205_526 : gR (gcl d) X 205 526 [l0, l1, l2, l3] (.int y :: .int x :: st) sh M kc ks Q = gR (gcl d) X 205 527 [l0, l1, l2, l3] (.int (x + y) :: st) sh M kc ks Q := x_iadd (gcl_m d) (gopt (e := (.iadd, 1, 0, 0, 0)) gt205 rfl) rfl
set_option maxRecDepth 100000 in
theorem u205_527 : gR (gcl d) X 205 527 [l0, l1, l2, l3] (.int x :: .float fk :: st) sh M kc ks Q = (vp_in x (gro 205 X fk).1 ∧ gR (gcl d) X 205 528 [l0, l1, l2, l3] (.int ((gro 205 X fk).2 x.toNatClampNeg) :: st) sh M kc ks Q) := x_iaro (gcl_m d) (gopt (e := (.iaload, 1, 0, 0, 0)) gt205 rfl) rfl
set_option maxRecDepth 100000 in
theorem u205_528 : gR (gcl d) X 205 528 [some (.ref o), l1, l2, l3] st sh M kc ks Q = gR (gcl d) X 205 529 [some (.ref o), l1, l2, l3] (.ref o :: st) sh M kc ks Q := x_aload_n (gcl_m d) (gopt (e := (.aload_n 0, 1, 0, 0, 0)) gt205 rfl) rfl rfl
set_option maxRecDepth 100000 in
theorem u205_528f : gR (gcl d) X 205 528 [some (.float fk), l1, l2, l3] st sh M kc ks Q = gR (gcl d) X 205 529 [some (.float fk), l1, l2, l3] (.float fk :: st) sh M kc ks Q := x_aload_nf (gcl_m d) (gopt (e := (.aload_n 0, 1, 0, 0, 0)) gt205 rfl) rfl rfl
set_option maxRecDepth 100000 in
theorem u205_529 : gR (gcl d) X 205 529 [l0, l1, l2, some (.int x)] st sh M kc ks Q = gR (gcl d) X 205 530 [l0, l1, l2, some (.int x)] (.int x :: st) sh M kc ks Q := x_iload_n (gcl_m d) (gopt (e := (.iload_n 3, 1, 0, 0, 0)) gt205 rfl) rfl rfl
set_option maxRecDepth 100000 in
theorem u205_530 : gR (gcl d) X 205 530 [l0, l1, l2, l3] st sh M kc ks Q = gR (gcl d) X 205 531 [l0, l1, l2, l3] (.int (nI 2) :: st) sh M kc ks Q := x_iconst (gcl_m d) (gopt (e := (.iconst 2, 1, 0, 0, 0)) gt205 rfl) (by decide) rfl
set_option maxRecDepth 100000 in
theorem u205_531 : gR (gcl d) X 205 531 [l0, l1, l2, l3] (.int y :: .int x :: st) sh M kc ks Q = gR (gcl d) X 205 532 [l0, l1, l2, l3] (.int (x + y) :: st) sh M kc ks Q := x_iadd (gcl_m d) (gopt (e := (.iadd, 1, 0, 0, 0)) gt205 rfl) rfl
set_option maxRecDepth 100000 in
theorem u205_532 : gR (gcl d) X 205 532 [l0, l1, l2, l3] (.int x :: .float fk :: st) sh M kc ks Q = (vp_in x (gro 205 X fk).1 ∧ gR (gcl d) X 205 533 [l0, l1, l2, l3] (.int ((gro 205 X fk).2 x.toNatClampNeg) :: st) sh M kc ks Q) := x_iaro (gcl_m d) (gopt (e := (.iaload, 1, 0, 0, 0)) gt205 rfl) rfl
set_option maxRecDepth 100000 in
theorem u205_533 : gR (gcl d) X 205 533 [l0, l1, l2, l3] (v2 :: v1 :: .ref o :: st) sh M kc ks Q = ((gci sh o = some 6 ∧ st.length ≤ 4 ∧ gro1 205 kc ks 0 0) ∧ gcl d 87 [.ref o, v1, v2] sh M fun v sh2 M2 => gR (gcl d) X 205 536 [l0, l1, l2, l3] (v ++ st) sh2 M2 kc ks Q) := x_virtk (gcl_m d) (gopt (e := (.invokevirtual 66, 3, 87, 2, 0)) gt205 rfl) rfl rfl rfl rfl rfl
set_option maxRecDepth 100000 in
theorem u205_536 : gR (gcl d) X 205 536 [l0, l1, some (.ref o), l3] st sh M kc ks Q = gR (gcl d) X 205 537 [l0, l1, some (.ref o), l3] (.ref o :: st) sh M kc ks Q := x_aload_n (gcl_m d) (gopt (e := (.aload_n 2, 1, 0, 0, 0)) gt205 rfl) rfl rfl
set_option maxRecDepth 100000 in
theorem u205_536f : gR (gcl d) X 205 536 [l0, l1, some (.float fk), l3] st sh M kc ks Q = gR (gcl d) X 205 537 [l0, l1, some (.float fk), l3] (.float fk :: st) sh M kc ks Q := x_aload_nf (gcl_m d) (gopt (e := (.aload_n 2, 1, 0, 0, 0)) gt205 rfl) rfl rfl
set_option maxRecDepth 100000 in
theorem u205_537 : gR (gcl d) X 205 537 [some (.ref o), l1, l2, l3] st sh M kc ks Q = gR (gcl d) X 205 538 [some (.ref o), l1, l2, l3] (.ref o :: st) sh M kc ks Q := x_aload_n (gcl_m d) (gopt (e := (.aload_n 0, 1, 0, 0, 0)) gt205 rfl) rfl rfl
set_option maxRecDepth 100000 in
theorem u205_537f : gR (gcl d) X 205 537 [some (.float fk), l1, l2, l3] st sh M kc ks Q = gR (gcl d) X 205 538 [some (.float fk), l1, l2, l3] (.float fk :: st) sh M kc ks Q := x_aload_nf (gcl_m d) (gopt (e := (.aload_n 0, 1, 0, 0, 0)) gt205 rfl) rfl rfl
set_option maxRecDepth 100000 in
theorem u205_538 : gR (gcl d) X 205 538 [l0, l1, l2, some (.int x)] st sh M kc ks Q = gR (gcl d) X 205 539 [l0, l1, l2, some (.int x)] (.int x :: st) sh M kc ks Q := x_iload_n (gcl_m d) (gopt (e := (.iload_n 3, 1, 0, 0, 0)) gt205 rfl) rfl rfl
set_option maxRecDepth 100000 in
theorem u205_539 : gR (gcl d) X 205 539 [l0, l1, l2, l3] st sh M kc ks Q = gR (gcl d) X 205 540 [l0, l1, l2, l3] (.int (nI 1) :: st) sh M kc ks Q := x_iconst (gcl_m d) (gopt (e := (.iconst 1, 1, 0, 0, 0)) gt205 rfl) (by decide) rfl
set_option maxRecDepth 100000 in
theorem u205_540 : gR (gcl d) X 205 540 [l0, l1, l2, l3] (.int y :: .int x :: st) sh M kc ks Q = gR (gcl d) X 205 541 [l0, l1, l2, l3] (.int (x + y) :: st) sh M kc ks Q := x_iadd (gcl_m d) (gopt (e := (.iadd, 1, 0, 0, 0)) gt205 rfl) rfl
set_option maxRecDepth 100000 in
theorem u205_541 : gR (gcl d) X 205 541 [l0, l1, l2, l3] (.int x :: .float fk :: st) sh M kc ks Q = (vp_in x (gro 205 X fk).1 ∧ gR (gcl d) X 205 542 [l0, l1, l2, l3] (.int ((gro 205 X fk).2 x.toNatClampNeg) :: st) sh M kc ks Q) := x_iaro (gcl_m d) (gopt (e := (.iaload, 1, 0, 0, 0)) gt205 rfl) rfl
set_option maxRecDepth 100000 in
theorem u205_542 : gR (gcl d) X 205 542 [some (.ref o), l1, l2, l3] st sh M kc ks Q = gR (gcl d) X 205 543 [some (.ref o), l1, l2, l3] (.ref o :: st) sh M kc ks Q := x_aload_n (gcl_m d) (gopt (e := (.aload_n 0, 1, 0, 0, 0)) gt205 rfl) rfl rfl
set_option maxRecDepth 100000 in
theorem u205_542f : gR (gcl d) X 205 542 [some (.float fk), l1, l2, l3] st sh M kc ks Q = gR (gcl d) X 205 543 [some (.float fk), l1, l2, l3] (.float fk :: st) sh M kc ks Q := x_aload_nf (gcl_m d) (gopt (e := (.aload_n 0, 1, 0, 0, 0)) gt205 rfl) rfl rfl
set_option maxRecDepth 100000 in
theorem u205_543 : gR (gcl d) X 205 543 [l0, l1, l2, some (.int x)] st sh M kc ks Q = gR (gcl d) X 205 544 [l0, l1, l2, some (.int x)] (.int x :: st) sh M kc ks Q := x_iload_n (gcl_m d) (gopt (e := (.iload_n 3, 1, 0, 0, 0)) gt205 rfl) rfl rfl
set_option maxRecDepth 100000 in
theorem u205_544 : gR (gcl d) X 205 544 [l0, l1, l2, l3] st sh M kc ks Q = gR (gcl d) X 205 545 [l0, l1, l2, l3] (.int (nI 2) :: st) sh M kc ks Q := x_iconst (gcl_m d) (gopt (e := (.iconst 2, 1, 0, 0, 0)) gt205 rfl) (by decide) rfl
set_option maxRecDepth 100000 in
theorem u205_545 : gR (gcl d) X 205 545 [l0, l1, l2, l3] (.int y :: .int x :: st) sh M kc ks Q = gR (gcl d) X 205 546 [l0, l1, l2, l3] (.int (x + y) :: st) sh M kc ks Q := x_iadd (gcl_m d) (gopt (e := (.iadd, 1, 0, 0, 0)) gt205 rfl) rfl
set_option maxRecDepth 100000 in
theorem u205_546 : gR (gcl d) X 205 546 [l0, l1, l2, l3] (.int x :: .float fk :: st) sh M kc ks Q = (vp_in x (gro 205 X fk).1 ∧ gR (gcl d) X 205 547 [l0, l1, l2, l3] (.int ((gro 205 X fk).2 x.toNatClampNeg) :: st) sh M kc ks Q) := x_iaro (gcl_m d) (gopt (e := (.iaload, 1, 0, 0, 0)) gt205 rfl) rfl
set_option maxRecDepth 100000 in
theorem u205_547 : gR (gcl d) X 205 547 [l0, l1, l2, l3] (v2 :: v1 :: .ref o :: st) sh M kc ks Q = ((gci sh o = some 7 ∧ st.length ≤ 4 ∧ gro1 205 kc ks 0 0) ∧ gcl d 165 [.ref o, v1, v2] sh M fun v sh2 M2 => gR (gcl d) X 205 550 [l0, l1, l2, l3] (v ++ st) sh2 M2 kc ks Q) := x_virtk (gcl_m d) (gopt (e := (.invokevirtual 69, 3, 165, 2, 0)) gt205 rfl) rfl rfl rfl rfl rfl
set_option maxRecDepth 100000 in
theorem u205_550 : gR (gcl d) X 205 550 [l0, l1, l2, l3] (.int y :: .int x :: st) sh M kc ks Q = ((x = y → gR (gcl d) X 205 1222 [l0, l1, l2, l3] st sh M kc ks Q) ∧ (¬ x = y → gR (gcl d) X 205 553 [l0, l1, l2, l3] st sh M kc ks Q)) := x_icmp_eq (gcl_m d) (gopt (e := (.if_icmp .eq 672, 3, 1222, 0, 0)) gt205 rfl) rfl
set_option maxRecDepth 100000 in
theorem u205_553 : gR (gcl d) X 205 553 [l0, l1, l2, l3] st sh M kc ks Q = gR (gcl d) X 205 554 [l0, l1, l2, l3] (.int (nI 0) :: st) sh M kc ks Q := x_iconst (gcl_m d) (gopt (e := (.iconst 0, 1, 0, 0, 0)) gt205 rfl) (by decide) rfl
set_option maxRecDepth 100000 in
theorem u205_554 : gR (gcl d) X 205 554 [l0, l1, l2, l3] [.int (nI 1)] sh M kc ks Q = (gfin 205 kc ks ∧ Q [.int (nI 1)] sh M) := x_retk (gcl_m d) (gopt (e := (.ireturn, 1, 0, 0, 0)) gt205 rfl) (Or.inr ⟨rfl, Or.inr (by decide)⟩)
set_option maxRecDepth 100000 in
theorem u205_555 : gR (gcl d) X 205 555 [l0, some (.ref o), l2, l3] st sh M kc ks Q = gR (gcl d) X 205 556 [l0, some (.ref o), l2, l3] (.ref o :: st) sh M kc ks Q := x_aload_n (gcl_m d) (gopt (e := (.aload_n 1, 1, 0, 0, 0)) gt205 rfl) rfl rfl
set_option maxRecDepth 100000 in
theorem u205_555f : gR (gcl d) X 205 555 [l0, some (.float fk), l2, l3] st sh M kc ks Q = gR (gcl d) X 205 556 [l0, some (.float fk), l2, l3] (.float fk :: st) sh M kc ks Q := x_aload_nf (gcl_m d) (gopt (e := (.aload_n 1, 1, 0, 0, 0)) gt205 rfl) rfl rfl
set_option maxRecDepth 100000 in
theorem u205_556 : gR (gcl d) X 205 556 [some (.ref o), l1, l2, l3] st sh M kc ks Q = gR (gcl d) X 205 557 [some (.ref o), l1, l2, l3] (.ref o :: st) sh M kc ks Q := x_aload_n (gcl_m d) (gopt (e := (.aload_n 0, 1, 0, 0, 0)) gt205 rfl) rfl rfl
set_option maxRecDepth 100000 in
theorem u205_556f : gR (gcl d) X 205 556 [some (.float fk), l1, l2, l3] st sh M kc ks Q = gR (gcl d) X 205 557 [some (.float fk), l1, l2, l3] (.float fk :: st) sh M kc ks Q := x_aload_nf (gcl_m d) (gopt (e := (.aload_n 0, 1, 0, 0, 0)) gt205 rfl) rfl rfl
set_option maxRecDepth 100000 in
theorem u205_557 : gR (gcl d) X 205 557 [l0, l1, l2, some (.int x)] st sh M kc ks Q = gR (gcl d) X 205 558 [l0, l1, l2, some (.int x)] (.int x :: st) sh M kc ks Q := x_iload_n (gcl_m d) (gopt (e := (.iload_n 3, 1, 0, 0, 0)) gt205 rfl) rfl rfl
set_option maxRecDepth 100000 in
theorem u205_558 : gR (gcl d) X 205 558 [l0, l1, l2, l3] st sh M kc ks Q = gR (gcl d) X 205 559 [l0, l1, l2, l3] (.int (nI 1) :: st) sh M kc ks Q := x_iconst (gcl_m d) (gopt (e := (.iconst 1, 1, 0, 0, 0)) gt205 rfl) (by decide) rfl
set_option maxRecDepth 100000 in
theorem u205_559 : gR (gcl d) X 205 559 [l0, l1, l2, l3] (.int y :: .int x :: st) sh M kc ks Q = gR (gcl d) X 205 560 [l0, l1, l2, l3] (.int (x + y) :: st) sh M kc ks Q := x_iadd (gcl_m d) (gopt (e := (.iadd, 1, 0, 0, 0)) gt205 rfl) rfl
set_option maxRecDepth 100000 in
theorem u205_560 : gR (gcl d) X 205 560 [l0, l1, l2, l3] (.int x :: .float fk :: st) sh M kc ks Q = (vp_in x (gro 205 X fk).1 ∧ gR (gcl d) X 205 561 [l0, l1, l2, l3] (.int ((gro 205 X fk).2 x.toNatClampNeg) :: st) sh M kc ks Q) := x_iaro (gcl_m d) (gopt (e := (.iaload, 1, 0, 0, 0)) gt205 rfl) rfl
set_option maxRecDepth 100000 in
theorem u205_561 : gR (gcl d) X 205 561 [some (.ref o), l1, l2, l3] st sh M kc ks Q = gR (gcl d) X 205 562 [some (.ref o), l1, l2, l3] (.ref o :: st) sh M kc ks Q := x_aload_n (gcl_m d) (gopt (e := (.aload_n 0, 1, 0, 0, 0)) gt205 rfl) rfl rfl
set_option maxRecDepth 100000 in
theorem u205_561f : gR (gcl d) X 205 561 [some (.float fk), l1, l2, l3] st sh M kc ks Q = gR (gcl d) X 205 562 [some (.float fk), l1, l2, l3] (.float fk :: st) sh M kc ks Q := x_aload_nf (gcl_m d) (gopt (e := (.aload_n 0, 1, 0, 0, 0)) gt205 rfl) rfl rfl
set_option maxRecDepth 100000 in
theorem u205_562 : gR (gcl d) X 205 562 [l0, l1, l2, some (.int x)] st sh M kc ks Q = gR (gcl d) X 205 563 [l0, l1, l2, some (.int x)] (.int x :: st) sh M kc ks Q := x_iload_n (gcl_m d) (gopt (e := (.iload_n 3, 1, 0, 0, 0)) gt205 rfl) rfl rfl
set_option maxRecDepth 100000 in
theorem u205_563 : gR (gcl d) X 205 563 [l0, l1, l2, l3] st sh M kc ks Q = gR (gcl d) X 205 564 [l0, l1, l2, l3] (.int (nI 2) :: st) sh M kc ks Q := x_iconst (gcl_m d) (gopt (e := (.iconst 2, 1, 0, 0, 0)) gt205 rfl) (by decide) rfl
set_option maxRecDepth 100000 in
theorem u205_564 : gR (gcl d) X 205 564 [l0, l1, l2, l3] (.int y :: .int x :: st) sh M kc ks Q = gR (gcl d) X 205 565 [l0, l1, l2, l3] (.int (x + y) :: st) sh M kc ks Q := x_iadd (gcl_m d) (gopt (e := (.iadd, 1, 0, 0, 0)) gt205 rfl) rfl
set_option maxRecDepth 100000 in
theorem u205_565 : gR (gcl d) X 205 565 [l0, l1, l2, l3] (.int x :: .float fk :: st) sh M kc ks Q = (vp_in x (gro 205 X fk).1 ∧ gR (gcl d) X 205 566 [l0, l1, l2, l3] (.int ((gro 205 X fk).2 x.toNatClampNeg) :: st) sh M kc ks Q) := x_iaro (gcl_m d) (gopt (e := (.iaload, 1, 0, 0, 0)) gt205 rfl) rfl
set_option maxRecDepth 100000 in
theorem u205_566 : gR (gcl d) X 205 566 [l0, l1, l2, l3] (v2 :: v1 :: .ref o :: st) sh M kc ks Q = ((gci sh o = some 6 ∧ st.length ≤ 4 ∧ gro1 205 kc ks 0 0) ∧ gcl d 88 [.ref o, v1, v2] sh M fun v sh2 M2 => gR (gcl d) X 205 569 [l0, l1, l2, l3] (v ++ st) sh2 M2 kc ks Q) := x_virtk (gcl_m d) (gopt (e := (.invokevirtual 70, 3, 88, 2, 0)) gt205 rfl) rfl rfl rfl rfl rfl
set_option maxRecDepth 100000 in
theorem u205_569 : gR (gcl d) X 205 569 [l0, l1, some (.ref o), l3] st sh M kc ks Q = gR (gcl d) X 205 570 [l0, l1, some (.ref o), l3] (.ref o :: st) sh M kc ks Q := x_aload_n (gcl_m d) (gopt (e := (.aload_n 2, 1, 0, 0, 0)) gt205 rfl) rfl rfl
set_option maxRecDepth 100000 in
theorem u205_569f : gR (gcl d) X 205 569 [l0, l1, some (.float fk), l3] st sh M kc ks Q = gR (gcl d) X 205 570 [l0, l1, some (.float fk), l3] (.float fk :: st) sh M kc ks Q := x_aload_nf (gcl_m d) (gopt (e := (.aload_n 2, 1, 0, 0, 0)) gt205 rfl) rfl rfl
set_option maxRecDepth 100000 in
theorem u205_570 : gR (gcl d) X 205 570 [some (.ref o), l1, l2, l3] st sh M kc ks Q = gR (gcl d) X 205 571 [some (.ref o), l1, l2, l3] (.ref o :: st) sh M kc ks Q := x_aload_n (gcl_m d) (gopt (e := (.aload_n 0, 1, 0, 0, 0)) gt205 rfl) rfl rfl
set_option maxRecDepth 100000 in
theorem u205_570f : gR (gcl d) X 205 570 [some (.float fk), l1, l2, l3] st sh M kc ks Q = gR (gcl d) X 205 571 [some (.float fk), l1, l2, l3] (.float fk :: st) sh M kc ks Q := x_aload_nf (gcl_m d) (gopt (e := (.aload_n 0, 1, 0, 0, 0)) gt205 rfl) rfl rfl
set_option maxRecDepth 100000 in
theorem u205_571 : gR (gcl d) X 205 571 [l0, l1, l2, some (.int x)] st sh M kc ks Q = gR (gcl d) X 205 572 [l0, l1, l2, some (.int x)] (.int x :: st) sh M kc ks Q := x_iload_n (gcl_m d) (gopt (e := (.iload_n 3, 1, 0, 0, 0)) gt205 rfl) rfl rfl
set_option maxRecDepth 100000 in
theorem u205_572 : gR (gcl d) X 205 572 [l0, l1, l2, l3] st sh M kc ks Q = gR (gcl d) X 205 573 [l0, l1, l2, l3] (.int (nI 1) :: st) sh M kc ks Q := x_iconst (gcl_m d) (gopt (e := (.iconst 1, 1, 0, 0, 0)) gt205 rfl) (by decide) rfl
set_option maxRecDepth 100000 in
theorem u205_573 : gR (gcl d) X 205 573 [l0, l1, l2, l3] (.int y :: .int x :: st) sh M kc ks Q = gR (gcl d) X 205 574 [l0, l1, l2, l3] (.int (x + y) :: st) sh M kc ks Q := x_iadd (gcl_m d) (gopt (e := (.iadd, 1, 0, 0, 0)) gt205 rfl) rfl
set_option maxRecDepth 100000 in
theorem u205_574 : gR (gcl d) X 205 574 [l0, l1, l2, l3] (.int x :: .float fk :: st) sh M kc ks Q = (vp_in x (gro 205 X fk).1 ∧ gR (gcl d) X 205 575 [l0, l1, l2, l3] (.int ((gro 205 X fk).2 x.toNatClampNeg) :: st) sh M kc ks Q) := x_iaro (gcl_m d) (gopt (e := (.iaload, 1, 0, 0, 0)) gt205 rfl) rfl
set_option maxRecDepth 100000 in
theorem u205_575 : gR (gcl d) X 205 575 [some (.ref o), l1, l2, l3] st sh M kc ks Q = gR (gcl d) X 205 576 [some (.ref o), l1, l2, l3] (.ref o :: st) sh M kc ks Q := x_aload_n (gcl_m d) (gopt (e := (.aload_n 0, 1, 0, 0, 0)) gt205 rfl) rfl rfl
set_option maxRecDepth 100000 in
theorem u205_575f : gR (gcl d) X 205 575 [some (.float fk), l1, l2, l3] st sh M kc ks Q = gR (gcl d) X 205 576 [some (.float fk), l1, l2, l3] (.float fk :: st) sh M kc ks Q := x_aload_nf (gcl_m d) (gopt (e := (.aload_n 0, 1, 0, 0, 0)) gt205 rfl) rfl rfl
set_option maxRecDepth 100000 in
theorem u205_576 : gR (gcl d) X 205 576 [l0, l1, l2, some (.int x)] st sh M kc ks Q = gR (gcl d) X 205 577 [l0, l1, l2, some (.int x)] (.int x :: st) sh M kc ks Q := x_iload_n (gcl_m d) (gopt (e := (.iload_n 3, 1, 0, 0, 0)) gt205 rfl) rfl rfl
set_option maxRecDepth 100000 in
theorem u205_577 : gR (gcl d) X 205 577 [l0, l1, l2, l3] st sh M kc ks Q = gR (gcl d) X 205 578 [l0, l1, l2, l3] (.int (nI 2) :: st) sh M kc ks Q := x_iconst (gcl_m d) (gopt (e := (.iconst 2, 1, 0, 0, 0)) gt205 rfl) (by decide) rfl
set_option maxRecDepth 100000 in
theorem u205_578 : gR (gcl d) X 205 578 [l0, l1, l2, l3] (.int y :: .int x :: st) sh M kc ks Q = gR (gcl d) X 205 579 [l0, l1, l2, l3] (.int (x + y) :: st) sh M kc ks Q := x_iadd (gcl_m d) (gopt (e := (.iadd, 1, 0, 0, 0)) gt205 rfl) rfl
set_option maxRecDepth 100000 in
theorem u205_579 : gR (gcl d) X 205 579 [l0, l1, l2, l3] (.int x :: .float fk :: st) sh M kc ks Q = (vp_in x (gro 205 X fk).1 ∧ gR (gcl d) X 205 580 [l0, l1, l2, l3] (.int ((gro 205 X fk).2 x.toNatClampNeg) :: st) sh M kc ks Q) := x_iaro (gcl_m d) (gopt (e := (.iaload, 1, 0, 0, 0)) gt205 rfl) rfl
set_option maxRecDepth 100000 in
theorem u205_580 : gR (gcl d) X 205 580 [l0, l1, l2, l3] (v2 :: v1 :: .ref o :: st) sh M kc ks Q = ((gci sh o = some 7 ∧ st.length ≤ 4 ∧ gro1 205 kc ks 0 0) ∧ gcl d 166 [.ref o, v1, v2] sh M fun v sh2 M2 => gR (gcl d) X 205 583 [l0, l1, l2, l3] (v ++ st) sh2 M2 kc ks Q) := x_virtk (gcl_m d) (gopt (e := (.invokevirtual 73, 3, 166, 2, 0)) gt205 rfl) rfl rfl rfl rfl rfl
set_option maxRecDepth 100000 in
theorem u205_583 : gR (gcl d) X 205 583 [l0, l1, l2, l3] (.int y :: .int x :: st) sh M kc ks Q = ((x = y → gR (gcl d) X 205 1222 [l0, l1, l2, l3] st sh M kc ks Q) ∧ (¬ x = y → gR (gcl d) X 205 586 [l0, l1, l2, l3] st sh M kc ks Q)) := x_icmp_eq (gcl_m d) (gopt (e := (.if_icmp .eq 639, 3, 1222, 0, 0)) gt205 rfl) rfl
set_option maxRecDepth 100000 in
theorem u205_586 : gR (gcl d) X 205 586 [l0, l1, l2, l3] st sh M kc ks Q = gR (gcl d) X 205 587 [l0, l1, l2, l3] (.int (nI 0) :: st) sh M kc ks Q := x_iconst (gcl_m d) (gopt (e := (.iconst 0, 1, 0, 0, 0)) gt205 rfl) (by decide) rfl
set_option maxRecDepth 100000 in
theorem u205_587 : gR (gcl d) X 205 587 [l0, l1, l2, l3] [.int (nI 1)] sh M kc ks Q = (gfin 205 kc ks ∧ Q [.int (nI 1)] sh M) := x_retk (gcl_m d) (gopt (e := (.ireturn, 1, 0, 0, 0)) gt205 rfl) (Or.inr ⟨rfl, Or.inr (by decide)⟩)
set_option maxRecDepth 100000 in
theorem u205_588 : gR (gcl d) X 205 588 [l0, some (.ref o), l2, l3] st sh M kc ks Q = gR (gcl d) X 205 589 [l0, some (.ref o), l2, l3] (.ref o :: st) sh M kc ks Q := x_aload_n (gcl_m d) (gopt (e := (.aload_n 1, 1, 0, 0, 0)) gt205 rfl) rfl rfl
set_option maxRecDepth 100000 in
theorem u205_588f : gR (gcl d) X 205 588 [l0, some (.float fk), l2, l3] st sh M kc ks Q = gR (gcl d) X 205 589 [l0, some (.float fk), l2, l3] (.float fk :: st) sh M kc ks Q := x_aload_nf (gcl_m d) (gopt (e := (.aload_n 1, 1, 0, 0, 0)) gt205 rfl) rfl rfl
set_option maxRecDepth 100000 in
theorem u205_589 : gR (gcl d) X 205 589 [some (.ref o), l1, l2, l3] st sh M kc ks Q = gR (gcl d) X 205 590 [some (.ref o), l1, l2, l3] (.ref o :: st) sh M kc ks Q := x_aload_n (gcl_m d) (gopt (e := (.aload_n 0, 1, 0, 0, 0)) gt205 rfl) rfl rfl
set_option maxRecDepth 100000 in
theorem u205_589f : gR (gcl d) X 205 589 [some (.float fk), l1, l2, l3] st sh M kc ks Q = gR (gcl d) X 205 590 [some (.float fk), l1, l2, l3] (.float fk :: st) sh M kc ks Q := x_aload_nf (gcl_m d) (gopt (e := (.aload_n 0, 1, 0, 0, 0)) gt205 rfl) rfl rfl
set_option maxRecDepth 100000 in
theorem u205_590 : gR (gcl d) X 205 590 [l0, l1, l2, some (.int x)] st sh M kc ks Q = gR (gcl d) X 205 591 [l0, l1, l2, some (.int x)] (.int x :: st) sh M kc ks Q := x_iload_n (gcl_m d) (gopt (e := (.iload_n 3, 1, 0, 0, 0)) gt205 rfl) rfl rfl
set_option maxRecDepth 100000 in
theorem u205_591 : gR (gcl d) X 205 591 [l0, l1, l2, l3] st sh M kc ks Q = gR (gcl d) X 205 592 [l0, l1, l2, l3] (.int (nI 1) :: st) sh M kc ks Q := x_iconst (gcl_m d) (gopt (e := (.iconst 1, 1, 0, 0, 0)) gt205 rfl) (by decide) rfl
set_option maxRecDepth 100000 in
theorem u205_592 : gR (gcl d) X 205 592 [l0, l1, l2, l3] (.int y :: .int x :: st) sh M kc ks Q = gR (gcl d) X 205 593 [l0, l1, l2, l3] (.int (x + y) :: st) sh M kc ks Q := x_iadd (gcl_m d) (gopt (e := (.iadd, 1, 0, 0, 0)) gt205 rfl) rfl
set_option maxRecDepth 100000 in
theorem u205_593 : gR (gcl d) X 205 593 [l0, l1, l2, l3] (.int x :: .float fk :: st) sh M kc ks Q = (vp_in x (gro 205 X fk).1 ∧ gR (gcl d) X 205 594 [l0, l1, l2, l3] (.int ((gro 205 X fk).2 x.toNatClampNeg) :: st) sh M kc ks Q) := x_iaro (gcl_m d) (gopt (e := (.iaload, 1, 0, 0, 0)) gt205 rfl) rfl
set_option maxRecDepth 100000 in
theorem u205_594 : gR (gcl d) X 205 594 [some (.ref o), l1, l2, l3] st sh M kc ks Q = gR (gcl d) X 205 595 [some (.ref o), l1, l2, l3] (.ref o :: st) sh M kc ks Q := x_aload_n (gcl_m d) (gopt (e := (.aload_n 0, 1, 0, 0, 0)) gt205 rfl) rfl rfl
set_option maxRecDepth 100000 in
theorem u205_594f : gR (gcl d) X 205 594 [some (.float fk), l1, l2, l3] st sh M kc ks Q = gR (gcl d) X 205 595 [some (.float fk), l1, l2, l3] (.float fk :: st) sh M kc ks Q := x_aload_nf (gcl_m d) (gopt (e := (.aload_n 0, 1, 0, 0, 0)) gt205 rfl) rfl rfl
set_option maxRecDepth 100000 in
theorem u205_595 : gR (gcl d) X 205 595 [l0, l1, l2, some (.int x)] st sh M kc ks Q = gR (gcl d) X 205 596 [l0, l1, l2, some (.int x)] (.int x :: st) sh M kc ks Q := x_iload_n (gcl_m d) (gopt (e := (.iload_n 3, 1, 0, 0, 0)) gt205 rfl) rfl rfl
set_option maxRecDepth 100000 in
theorem u205_596 : gR (gcl d) X 205 596 [l0, l1, l2, l3] st sh M kc ks Q = gR (gcl d) X 205 597 [l0, l1, l2, l3] (.int (nI 2) :: st) sh M kc ks Q := x_iconst (gcl_m d) (gopt (e := (.iconst 2, 1, 0, 0, 0)) gt205 rfl) (by decide) rfl
set_option maxRecDepth 100000 in
theorem u205_597 : gR (gcl d) X 205 597 [l0, l1, l2, l3] (.int y :: .int x :: st) sh M kc ks Q = gR (gcl d) X 205 598 [l0, l1, l2, l3] (.int (x + y) :: st) sh M kc ks Q := x_iadd (gcl_m d) (gopt (e := (.iadd, 1, 0, 0, 0)) gt205 rfl) rfl
set_option maxRecDepth 100000 in
theorem u205_598 : gR (gcl d) X 205 598 [l0, l1, l2, l3] (.int x :: .float fk :: st) sh M kc ks Q = (vp_in x (gro 205 X fk).1 ∧ gR (gcl d) X 205 599 [l0, l1, l2, l3] (.int ((gro 205 X fk).2 x.toNatClampNeg) :: st) sh M kc ks Q) := x_iaro (gcl_m d) (gopt (e := (.iaload, 1, 0, 0, 0)) gt205 rfl) rfl
set_option maxRecDepth 100000 in
theorem u205_599 : gR (gcl d) X 205 599 [l0, l1, l2, l3] (v2 :: v1 :: .ref o :: st) sh M kc ks Q = ((gci sh o = some 6 ∧ st.length ≤ 4 ∧ gro1 205 kc ks 0 0) ∧ gcl d 89 [.ref o, v1, v2] sh M fun v sh2 M2 => gR (gcl d) X 205 602 [l0, l1, l2, l3] (v ++ st) sh2 M2 kc ks Q) := x_virtk (gcl_m d) (gopt (e := (.invokevirtual 74, 3, 89, 2, 0)) gt205 rfl) rfl rfl rfl rfl rfl
set_option maxRecDepth 100000 in
theorem u205_602 : gR (gcl d) X 205 602 [l0, l1, some (.ref o), l3] st sh M kc ks Q = gR (gcl d) X 205 603 [l0, l1, some (.ref o), l3] (.ref o :: st) sh M kc ks Q := x_aload_n (gcl_m d) (gopt (e := (.aload_n 2, 1, 0, 0, 0)) gt205 rfl) rfl rfl
set_option maxRecDepth 100000 in
theorem u205_602f : gR (gcl d) X 205 602 [l0, l1, some (.float fk), l3] st sh M kc ks Q = gR (gcl d) X 205 603 [l0, l1, some (.float fk), l3] (.float fk :: st) sh M kc ks Q := x_aload_nf (gcl_m d) (gopt (e := (.aload_n 2, 1, 0, 0, 0)) gt205 rfl) rfl rfl
set_option maxRecDepth 100000 in
theorem u205_603 : gR (gcl d) X 205 603 [some (.ref o), l1, l2, l3] st sh M kc ks Q = gR (gcl d) X 205 604 [some (.ref o), l1, l2, l3] (.ref o :: st) sh M kc ks Q := x_aload_n (gcl_m d) (gopt (e := (.aload_n 0, 1, 0, 0, 0)) gt205 rfl) rfl rfl
set_option maxRecDepth 100000 in
theorem u205_603f : gR (gcl d) X 205 603 [some (.float fk), l1, l2, l3] st sh M kc ks Q = gR (gcl d) X 205 604 [some (.float fk), l1, l2, l3] (.float fk :: st) sh M kc ks Q := x_aload_nf (gcl_m d) (gopt (e := (.aload_n 0, 1, 0, 0, 0)) gt205 rfl) rfl rfl
set_option maxRecDepth 100000 in
theorem u205_604 : gR (gcl d) X 205 604 [l0, l1, l2, some (.int x)] st sh M kc ks Q = gR (gcl d) X 205 605 [l0, l1, l2, some (.int x)] (.int x :: st) sh M kc ks Q := x_iload_n (gcl_m d) (gopt (e := (.iload_n 3, 1, 0, 0, 0)) gt205 rfl) rfl rfl
set_option maxRecDepth 100000 in
theorem u205_605 : gR (gcl d) X 205 605 [l0, l1, l2, l3] st sh M kc ks Q = gR (gcl d) X 205 606 [l0, l1, l2, l3] (.int (nI 1) :: st) sh M kc ks Q := x_iconst (gcl_m d) (gopt (e := (.iconst 1, 1, 0, 0, 0)) gt205 rfl) (by decide) rfl
set_option maxRecDepth 100000 in
theorem u205_606 : gR (gcl d) X 205 606 [l0, l1, l2, l3] (.int y :: .int x :: st) sh M kc ks Q = gR (gcl d) X 205 607 [l0, l1, l2, l3] (.int (x + y) :: st) sh M kc ks Q := x_iadd (gcl_m d) (gopt (e := (.iadd, 1, 0, 0, 0)) gt205 rfl) rfl
set_option maxRecDepth 100000 in
theorem u205_607 : gR (gcl d) X 205 607 [l0, l1, l2, l3] (.int x :: .float fk :: st) sh M kc ks Q = (vp_in x (gro 205 X fk).1 ∧ gR (gcl d) X 205 608 [l0, l1, l2, l3] (.int ((gro 205 X fk).2 x.toNatClampNeg) :: st) sh M kc ks Q) := x_iaro (gcl_m d) (gopt (e := (.iaload, 1, 0, 0, 0)) gt205 rfl) rfl
set_option maxRecDepth 100000 in
theorem u205_608 : gR (gcl d) X 205 608 [some (.ref o), l1, l2, l3] st sh M kc ks Q = gR (gcl d) X 205 609 [some (.ref o), l1, l2, l3] (.ref o :: st) sh M kc ks Q := x_aload_n (gcl_m d) (gopt (e := (.aload_n 0, 1, 0, 0, 0)) gt205 rfl) rfl rfl
set_option maxRecDepth 100000 in
theorem u205_608f : gR (gcl d) X 205 608 [some (.float fk), l1, l2, l3] st sh M kc ks Q = gR (gcl d) X 205 609 [some (.float fk), l1, l2, l3] (.float fk :: st) sh M kc ks Q := x_aload_nf (gcl_m d) (gopt (e := (.aload_n 0, 1, 0, 0, 0)) gt205 rfl) rfl rfl
set_option maxRecDepth 100000 in
theorem u205_609 : gR (gcl d) X 205 609 [l0, l1, l2, some (.int x)] st sh M kc ks Q = gR (gcl d) X 205 610 [l0, l1, l2, some (.int x)] (.int x :: st) sh M kc ks Q := x_iload_n (gcl_m d) (gopt (e := (.iload_n 3, 1, 0, 0, 0)) gt205 rfl) rfl rfl
set_option maxRecDepth 100000 in
theorem u205_610 : gR (gcl d) X 205 610 [l0, l1, l2, l3] st sh M kc ks Q = gR (gcl d) X 205 611 [l0, l1, l2, l3] (.int (nI 2) :: st) sh M kc ks Q := x_iconst (gcl_m d) (gopt (e := (.iconst 2, 1, 0, 0, 0)) gt205 rfl) (by decide) rfl
set_option maxRecDepth 100000 in
theorem u205_611 : gR (gcl d) X 205 611 [l0, l1, l2, l3] (.int y :: .int x :: st) sh M kc ks Q = gR (gcl d) X 205 612 [l0, l1, l2, l3] (.int (x + y) :: st) sh M kc ks Q := x_iadd (gcl_m d) (gopt (e := (.iadd, 1, 0, 0, 0)) gt205 rfl) rfl
set_option maxRecDepth 100000 in
theorem u205_612 : gR (gcl d) X 205 612 [l0, l1, l2, l3] (.int x :: .float fk :: st) sh M kc ks Q = (vp_in x (gro 205 X fk).1 ∧ gR (gcl d) X 205 613 [l0, l1, l2, l3] (.int ((gro 205 X fk).2 x.toNatClampNeg) :: st) sh M kc ks Q) := x_iaro (gcl_m d) (gopt (e := (.iaload, 1, 0, 0, 0)) gt205 rfl) rfl
set_option maxRecDepth 100000 in
theorem u205_613 : gR (gcl d) X 205 613 [l0, l1, l2, l3] (v2 :: v1 :: .ref o :: st) sh M kc ks Q = ((gci sh o = some 7 ∧ st.length ≤ 4 ∧ gro1 205 kc ks 0 0) ∧ gcl d 167 [.ref o, v1, v2] sh M fun v sh2 M2 => gR (gcl d) X 205 616 [l0, l1, l2, l3] (v ++ st) sh2 M2 kc ks Q) := x_virtk (gcl_m d) (gopt (e := (.invokevirtual 77, 3, 167, 2, 0)) gt205 rfl) rfl rfl rfl rfl rfl
set_option maxRecDepth 100000 in
theorem u205_616 : gR (gcl d) X 205 616 [l0, l1, l2, l3] (.int y :: .int x :: st) sh M kc ks Q = ((x = y → gR (gcl d) X 205 1222 [l0, l1, l2, l3] st sh M kc ks Q) ∧ (¬ x = y → gR (gcl d) X 205 619 [l0, l1, l2, l3] st sh M kc ks Q)) := x_icmp_eq (gcl_m d) (gopt (e := (.if_icmp .eq 606, 3, 1222, 0, 0)) gt205 rfl) rfl
set_option maxRecDepth 100000 in
theorem u205_619 : gR (gcl d) X 205 619 [l0, l1, l2, l3] st sh M kc ks Q = gR (gcl d) X 205 620 [l0, l1, l2, l3] (.int (nI 0) :: st) sh M kc ks Q := x_iconst (gcl_m d) (gopt (e := (.iconst 0, 1, 0, 0, 0)) gt205 rfl) (by decide) rfl
set_option maxRecDepth 100000 in
theorem u205_620 : gR (gcl d) X 205 620 [l0, l1, l2, l3] [.int (nI 1)] sh M kc ks Q = (gfin 205 kc ks ∧ Q [.int (nI 1)] sh M) := x_retk (gcl_m d) (gopt (e := (.ireturn, 1, 0, 0, 0)) gt205 rfl) (Or.inr ⟨rfl, Or.inr (by decide)⟩)
set_option maxRecDepth 100000 in
theorem u205_621 : gR (gcl d) X 205 621 [l0, some (.ref o), l2, l3] st sh M kc ks Q = gR (gcl d) X 205 622 [l0, some (.ref o), l2, l3] (.ref o :: st) sh M kc ks Q := x_aload_n (gcl_m d) (gopt (e := (.aload_n 1, 1, 0, 0, 0)) gt205 rfl) rfl rfl
set_option maxRecDepth 100000 in
theorem u205_621f : gR (gcl d) X 205 621 [l0, some (.float fk), l2, l3] st sh M kc ks Q = gR (gcl d) X 205 622 [l0, some (.float fk), l2, l3] (.float fk :: st) sh M kc ks Q := x_aload_nf (gcl_m d) (gopt (e := (.aload_n 1, 1, 0, 0, 0)) gt205 rfl) rfl rfl
set_option maxRecDepth 100000 in
theorem u205_622 : gR (gcl d) X 205 622 [some (.ref o), l1, l2, l3] st sh M kc ks Q = gR (gcl d) X 205 623 [some (.ref o), l1, l2, l3] (.ref o :: st) sh M kc ks Q := x_aload_n (gcl_m d) (gopt (e := (.aload_n 0, 1, 0, 0, 0)) gt205 rfl) rfl rfl
set_option maxRecDepth 100000 in
theorem u205_622f : gR (gcl d) X 205 622 [some (.float fk), l1, l2, l3] st sh M kc ks Q = gR (gcl d) X 205 623 [some (.float fk), l1, l2, l3] (.float fk :: st) sh M kc ks Q := x_aload_nf (gcl_m d) (gopt (e := (.aload_n 0, 1, 0, 0, 0)) gt205 rfl) rfl rfl
set_option maxRecDepth 100000 in
theorem u205_623 : gR (gcl d) X 205 623 [l0, l1, l2, some (.int x)] st sh M kc ks Q = gR (gcl d) X 205 624 [l0, l1, l2, some (.int x)] (.int x :: st) sh M kc ks Q := x_iload_n (gcl_m d) (gopt (e := (.iload_n 3, 1, 0, 0, 0)) gt205 rfl) rfl rfl
set_option maxRecDepth 100000 in
theorem u205_624 : gR (gcl d) X 205 624 [l0, l1, l2, l3] st sh M kc ks Q = gR (gcl d) X 205 625 [l0, l1, l2, l3] (.int (nI 1) :: st) sh M kc ks Q := x_iconst (gcl_m d) (gopt (e := (.iconst 1, 1, 0, 0, 0)) gt205 rfl) (by decide) rfl
set_option maxRecDepth 100000 in
theorem u205_625 : gR (gcl d) X 205 625 [l0, l1, l2, l3] (.int y :: .int x :: st) sh M kc ks Q = gR (gcl d) X 205 626 [l0, l1, l2, l3] (.int (x + y) :: st) sh M kc ks Q := x_iadd (gcl_m d) (gopt (e := (.iadd, 1, 0, 0, 0)) gt205 rfl) rfl
set_option maxRecDepth 100000 in
theorem u205_626 : gR (gcl d) X 205 626 [l0, l1, l2, l3] (.int x :: .float fk :: st) sh M kc ks Q = (vp_in x (gro 205 X fk).1 ∧ gR (gcl d) X 205 627 [l0, l1, l2, l3] (.int ((gro 205 X fk).2 x.toNatClampNeg) :: st) sh M kc ks Q) := x_iaro (gcl_m d) (gopt (e := (.iaload, 1, 0, 0, 0)) gt205 rfl) rfl
set_option maxRecDepth 100000 in
theorem u205_627 : gR (gcl d) X 205 627 [some (.ref o), l1, l2, l3] st sh M kc ks Q = gR (gcl d) X 205 628 [some (.ref o), l1, l2, l3] (.ref o :: st) sh M kc ks Q := x_aload_n (gcl_m d) (gopt (e := (.aload_n 0, 1, 0, 0, 0)) gt205 rfl) rfl rfl
set_option maxRecDepth 100000 in
theorem u205_627f : gR (gcl d) X 205 627 [some (.float fk), l1, l2, l3] st sh M kc ks Q = gR (gcl d) X 205 628 [some (.float fk), l1, l2, l3] (.float fk :: st) sh M kc ks Q := x_aload_nf (gcl_m d) (gopt (e := (.aload_n 0, 1, 0, 0, 0)) gt205 rfl) rfl rfl
set_option maxRecDepth 100000 in
theorem u205_628 : gR (gcl d) X 205 628 [l0, l1, l2, some (.int x)] st sh M kc ks Q = gR (gcl d) X 205 629 [l0, l1, l2, some (.int x)] (.int x :: st) sh M kc ks Q := x_iload_n (gcl_m d) (gopt (e := (.iload_n 3, 1, 0, 0, 0)) gt205 rfl) rfl rfl
set_option maxRecDepth 100000 in
theorem u205_629 : gR (gcl d) X 205 629 [l0, l1, l2, l3] st sh M kc ks Q = gR (gcl d) X 205 630 [l0, l1, l2, l3] (.int (nI 2) :: st) sh M kc ks Q := x_iconst (gcl_m d) (gopt (e := (.iconst 2, 1, 0, 0, 0)) gt205 rfl) (by decide) rfl
set_option maxRecDepth 100000 in
theorem u205_630 : gR (gcl d) X 205 630 [l0, l1, l2, l3] (.int y :: .int x :: st) sh M kc ks Q = gR (gcl d) X 205 631 [l0, l1, l2, l3] (.int (x + y) :: st) sh M kc ks Q := x_iadd (gcl_m d) (gopt (e := (.iadd, 1, 0, 0, 0)) gt205 rfl) rfl
set_option maxRecDepth 100000 in
theorem u205_631 : gR (gcl d) X 205 631 [l0, l1, l2, l3] (.int x :: .float fk :: st) sh M kc ks Q = (vp_in x (gro 205 X fk).1 ∧ gR (gcl d) X 205 632 [l0, l1, l2, l3] (.int ((gro 205 X fk).2 x.toNatClampNeg) :: st) sh M kc ks Q) := x_iaro (gcl_m d) (gopt (e := (.iaload, 1, 0, 0, 0)) gt205 rfl) rfl
set_option maxRecDepth 100000 in
theorem u205_632 : gR (gcl d) X 205 632 [l0, l1, l2, l3] (v2 :: v1 :: .ref o :: st) sh M kc ks Q = ((gci sh o = some 6 ∧ st.length ≤ 4 ∧ gro1 205 kc ks 0 0) ∧ gcl d 90 [.ref o, v1, v2] sh M fun v sh2 M2 => gR (gcl d) X 205 635 [l0, l1, l2, l3] (v ++ st) sh2 M2 kc ks Q) := x_virtk (gcl_m d) (gopt (e := (.invokevirtual 78, 3, 90, 2, 0)) gt205 rfl) rfl rfl rfl rfl rfl
set_option maxRecDepth 100000 in
theorem u205_635 : gR (gcl d) X 205 635 [l0, l1, some (.ref o), l3] st sh M kc ks Q = gR (gcl d) X 205 636 [l0, l1, some (.ref o), l3] (.ref o :: st) sh M kc ks Q := x_aload_n (gcl_m d) (gopt (e := (.aload_n 2, 1, 0, 0, 0)) gt205 rfl) rfl rfl
set_option maxRecDepth 100000 in
theorem u205_635f : gR (gcl d) X 205 635 [l0, l1, some (.float fk), l3] st sh M kc ks Q = gR (gcl d) X 205 636 [l0, l1, some (.float fk), l3] (.float fk :: st) sh M kc ks Q := x_aload_nf (gcl_m d) (gopt (e := (.aload_n 2, 1, 0, 0, 0)) gt205 rfl) rfl rfl
set_option maxRecDepth 100000 in
theorem u205_636 : gR (gcl d) X 205 636 [some (.ref o), l1, l2, l3] st sh M kc ks Q = gR (gcl d) X 205 637 [some (.ref o), l1, l2, l3] (.ref o :: st) sh M kc ks Q := x_aload_n (gcl_m d) (gopt (e := (.aload_n 0, 1, 0, 0, 0)) gt205 rfl) rfl rfl
set_option maxRecDepth 100000 in
theorem u205_636f : gR (gcl d) X 205 636 [some (.float fk), l1, l2, l3] st sh M kc ks Q = gR (gcl d) X 205 637 [some (.float fk), l1, l2, l3] (.float fk :: st) sh M kc ks Q := x_aload_nf (gcl_m d) (gopt (e := (.aload_n 0, 1, 0, 0, 0)) gt205 rfl) rfl rfl
set_option maxRecDepth 100000 in
theorem u205_637 : gR (gcl d) X 205 637 [l0, l1, l2, some (.int x)] st sh M kc ks Q = gR (gcl d) X 205 638 [l0, l1, l2, some (.int x)] (.int x :: st) sh M kc ks Q := x_iload_n (gcl_m d) (gopt (e := (.iload_n 3, 1, 0, 0, 0)) gt205 rfl) rfl rfl
set_option maxRecDepth 100000 in
theorem u205_638 : gR (gcl d) X 205 638 [l0, l1, l2, l3] st sh M kc ks Q = gR (gcl d) X 205 639 [l0, l1, l2, l3] (.int (nI 1) :: st) sh M kc ks Q := x_iconst (gcl_m d) (gopt (e := (.iconst 1, 1, 0, 0, 0)) gt205 rfl) (by decide) rfl
set_option maxRecDepth 100000 in
theorem u205_639 : gR (gcl d) X 205 639 [l0, l1, l2, l3] (.int y :: .int x :: st) sh M kc ks Q = gR (gcl d) X 205 640 [l0, l1, l2, l3] (.int (x + y) :: st) sh M kc ks Q := x_iadd (gcl_m d) (gopt (e := (.iadd, 1, 0, 0, 0)) gt205 rfl) rfl
set_option maxRecDepth 100000 in
theorem u205_640 : gR (gcl d) X 205 640 [l0, l1, l2, l3] (.int x :: .float fk :: st) sh M kc ks Q = (vp_in x (gro 205 X fk).1 ∧ gR (gcl d) X 205 641 [l0, l1, l2, l3] (.int ((gro 205 X fk).2 x.toNatClampNeg) :: st) sh M kc ks Q) := x_iaro (gcl_m d) (gopt (e := (.iaload, 1, 0, 0, 0)) gt205 rfl) rfl
set_option maxRecDepth 100000 in
theorem u205_641 : gR (gcl d) X 205 641 [some (.ref o), l1, l2, l3] st sh M kc ks Q = gR (gcl d) X 205 642 [some (.ref o), l1, l2, l3] (.ref o :: st) sh M kc ks Q := x_aload_n (gcl_m d) (gopt (e := (.aload_n 0, 1, 0, 0, 0)) gt205 rfl) rfl rfl
set_option maxRecDepth 100000 in
theorem u205_641f : gR (gcl d) X 205 641 [some (.float fk), l1, l2, l3] st sh M kc ks Q = gR (gcl d) X 205 642 [some (.float fk), l1, l2, l3] (.float fk :: st) sh M kc ks Q := x_aload_nf (gcl_m d) (gopt (e := (.aload_n 0, 1, 0, 0, 0)) gt205 rfl) rfl rfl
set_option maxRecDepth 100000 in
theorem u205_642 : gR (gcl d) X 205 642 [l0, l1, l2, some (.int x)] st sh M kc ks Q = gR (gcl d) X 205 643 [l0, l1, l2, some (.int x)] (.int x :: st) sh M kc ks Q := x_iload_n (gcl_m d) (gopt (e := (.iload_n 3, 1, 0, 0, 0)) gt205 rfl) rfl rfl
set_option maxRecDepth 100000 in
theorem u205_643 : gR (gcl d) X 205 643 [l0, l1, l2, l3] st sh M kc ks Q = gR (gcl d) X 205 644 [l0, l1, l2, l3] (.int (nI 2) :: st) sh M kc ks Q := x_iconst (gcl_m d) (gopt (e := (.iconst 2, 1, 0, 0, 0)) gt205 rfl) (by decide) rfl
set_option maxRecDepth 100000 in
theorem u205_644 : gR (gcl d) X 205 644 [l0, l1, l2, l3] (.int y :: .int x :: st) sh M kc ks Q = gR (gcl d) X 205 645 [l0, l1, l2, l3] (.int (x + y) :: st) sh M kc ks Q := x_iadd (gcl_m d) (gopt (e := (.iadd, 1, 0, 0, 0)) gt205 rfl) rfl
set_option maxRecDepth 100000 in
theorem u205_645 : gR (gcl d) X 205 645 [l0, l1, l2, l3] (.int x :: .float fk :: st) sh M kc ks Q = (vp_in x (gro 205 X fk).1 ∧ gR (gcl d) X 205 646 [l0, l1, l2, l3] (.int ((gro 205 X fk).2 x.toNatClampNeg) :: st) sh M kc ks Q) := x_iaro (gcl_m d) (gopt (e := (.iaload, 1, 0, 0, 0)) gt205 rfl) rfl
set_option maxRecDepth 100000 in
theorem u205_646 : gR (gcl d) X 205 646 [l0, l1, l2, l3] (v2 :: v1 :: .ref o :: st) sh M kc ks Q = ((gci sh o = some 7 ∧ st.length ≤ 4 ∧ gro1 205 kc ks 0 0) ∧ gcl d 173 [.ref o, v1, v2] sh M fun v sh2 M2 => gR (gcl d) X 205 649 [l0, l1, l2, l3] (v ++ st) sh2 M2 kc ks Q) := x_virtk (gcl_m d) (gopt (e := (.invokevirtual 81, 3, 173, 2, 0)) gt205 rfl) rfl rfl rfl rfl rfl
set_option maxRecDepth 100000 in
theorem u205_649 : gR (gcl d) X 205 649 [l0, l1, l2, l3] (.int y :: .int x :: st) sh M kc ks Q = ((x = y → gR (gcl d) X 205 1222 [l0, l1, l2, l3] st sh M kc ks Q) ∧ (¬ x = y → gR (gcl d) X 205 652 [l0, l1, l2, l3] st sh M kc ks Q)) := x_icmp_eq (gcl_m d) (gopt (e := (.if_icmp .eq 573, 3, 1222, 0, 0)) gt205 rfl) rfl
set_option maxRecDepth 100000 in
theorem u205_652 : gR (gcl d) X 205 652 [l0, l1, l2, l3] st sh M kc ks Q = gR (gcl d) X 205 653 [l0, l1, l2, l3] (.int (nI 0) :: st) sh M kc ks Q := x_iconst (gcl_m d) (gopt (e := (.iconst 0, 1, 0, 0, 0)) gt205 rfl) (by decide) rfl
set_option maxRecDepth 100000 in
theorem u205_653 : gR (gcl d) X 205 653 [l0, l1, l2, l3] [.int (nI 1)] sh M kc ks Q = (gfin 205 kc ks ∧ Q [.int (nI 1)] sh M) := x_retk (gcl_m d) (gopt (e := (.ireturn, 1, 0, 0, 0)) gt205 rfl) (Or.inr ⟨rfl, Or.inr (by decide)⟩)
set_option maxRecDepth 100000 in
theorem u205_654 : gR (gcl d) X 205 654 [l0, some (.ref o), l2, l3] st sh M kc ks Q = gR (gcl d) X 205 655 [l0, some (.ref o), l2, l3] (.ref o :: st) sh M kc ks Q := x_aload_n (gcl_m d) (gopt (e := (.aload_n 1, 1, 0, 0, 0)) gt205 rfl) rfl rfl
set_option maxRecDepth 100000 in
theorem u205_654f : gR (gcl d) X 205 654 [l0, some (.float fk), l2, l3] st sh M kc ks Q = gR (gcl d) X 205 655 [l0, some (.float fk), l2, l3] (.float fk :: st) sh M kc ks Q := x_aload_nf (gcl_m d) (gopt (e := (.aload_n 1, 1, 0, 0, 0)) gt205 rfl) rfl rfl
set_option maxRecDepth 100000 in
theorem u205_655 : gR (gcl d) X 205 655 [some (.ref o), l1, l2, l3] st sh M kc ks Q = gR (gcl d) X 205 656 [some (.ref o), l1, l2, l3] (.ref o :: st) sh M kc ks Q := x_aload_n (gcl_m d) (gopt (e := (.aload_n 0, 1, 0, 0, 0)) gt205 rfl) rfl rfl
set_option maxRecDepth 100000 in
theorem u205_655f : gR (gcl d) X 205 655 [some (.float fk), l1, l2, l3] st sh M kc ks Q = gR (gcl d) X 205 656 [some (.float fk), l1, l2, l3] (.float fk :: st) sh M kc ks Q := x_aload_nf (gcl_m d) (gopt (e := (.aload_n 0, 1, 0, 0, 0)) gt205 rfl) rfl rfl
set_option maxRecDepth 100000 in
theorem u205_656 : gR (gcl d) X 205 656 [l0, l1, l2, some (.int x)] st sh M kc ks Q = gR (gcl d) X 205 657 [l0, l1, l2, some (.int x)] (.int x :: st) sh M kc ks Q := x_iload_n (gcl_m d) (gopt (e := (.iload_n 3, 1, 0, 0, 0)) gt205 rfl) rfl rfl
set_option maxRecDepth 100000 in
theorem u205_657 : gR (gcl d) X 205 657 [l0, l1, l2, l3] st sh M kc ks Q = gR (gcl d) X 205 658 [l0, l1, l2, l3] (.int (nI 1) :: st) sh M kc ks Q := x_iconst (gcl_m d) (gopt (e := (.iconst 1, 1, 0, 0, 0)) gt205 rfl) (by decide) rfl
set_option maxRecDepth 100000 in
theorem u205_658 : gR (gcl d) X 205 658 [l0, l1, l2, l3] (.int y :: .int x :: st) sh M kc ks Q = gR (gcl d) X 205 659 [l0, l1, l2, l3] (.int (x + y) :: st) sh M kc ks Q := x_iadd (gcl_m d) (gopt (e := (.iadd, 1, 0, 0, 0)) gt205 rfl) rfl
set_option maxRecDepth 100000 in
theorem u205_659 : gR (gcl d) X 205 659 [l0, l1, l2, l3] (.int x :: .float fk :: st) sh M kc ks Q = (vp_in x (gro 205 X fk).1 ∧ gR (gcl d) X 205 660 [l0, l1, l2, l3] (.int ((gro 205 X fk).2 x.toNatClampNeg) :: st) sh M kc ks Q) := x_iaro (gcl_m d) (gopt (e := (.iaload, 1, 0, 0, 0)) gt205 rfl) rfl
set_option maxRecDepth 100000 in
theorem u205_660 : gR (gcl d) X 205 660 [some (.ref o), l1, l2, l3] st sh M kc ks Q = gR (gcl d) X 205 661 [some (.ref o), l1, l2, l3] (.ref o :: st) sh M kc ks Q := x_aload_n (gcl_m d) (gopt (e := (.aload_n 0, 1, 0, 0, 0)) gt205 rfl) rfl rfl
set_option maxRecDepth 100000 in
theorem u205_660f : gR (gcl d) X 205 660 [some (.float fk), l1, l2, l3] st sh M kc ks Q = gR (gcl d) X 205 661 [some (.float fk), l1, l2, l3] (.float fk :: st) sh M kc ks Q := x_aload_nf (gcl_m d) (gopt (e := (.aload_n 0, 1, 0, 0, 0)) gt205 rfl) rfl rfl
set_option maxRecDepth 100000 in
theorem u205_661 : gR (gcl d) X 205 661 [l0, l1, l2, some (.int x)] st sh M kc ks Q = gR (gcl d) X 205 662 [l0, l1, l2, some (.int x)] (.int x :: st) sh M kc ks Q := x_iload_n (gcl_m d) (gopt (e := (.iload_n 3, 1, 0, 0, 0)) gt205 rfl) rfl rfl
set_option maxRecDepth 100000 in
theorem u205_662 : gR (gcl d) X 205 662 [l0, l1, l2, l3] st sh M kc ks Q = gR (gcl d) X 205 663 [l0, l1, l2, l3] (.int (nI 2) :: st) sh M kc ks Q := x_iconst (gcl_m d) (gopt (e := (.iconst 2, 1, 0, 0, 0)) gt205 rfl) (by decide) rfl
set_option maxRecDepth 100000 in
theorem u205_663 : gR (gcl d) X 205 663 [l0, l1, l2, l3] (.int y :: .int x :: st) sh M kc ks Q = gR (gcl d) X 205 664 [l0, l1, l2, l3] (.int (x + y) :: st) sh M kc ks Q := x_iadd (gcl_m d) (gopt (e := (.iadd, 1, 0, 0, 0)) gt205 rfl) rfl
set_option maxRecDepth 100000 in
theorem u205_664 : gR (gcl d) X 205 664 [l0, l1, l2, l3] (.int x :: .float fk :: st) sh M kc ks Q = (vp_in x (gro 205 X fk).1 ∧ gR (gcl d) X 205 665 [l0, l1, l2, l3] (.int ((gro 205 X fk).2 x.toNatClampNeg) :: st) sh M kc ks Q) := x_iaro (gcl_m d) (gopt (e := (.iaload, 1, 0, 0, 0)) gt205 rfl) rfl
set_option maxRecDepth 100000 in
theorem u205_665 : gR (gcl d) X 205 665 [some (.ref o), l1, l2, l3] st sh M kc ks Q = gR (gcl d) X 205 666 [some (.ref o), l1, l2, l3] (.ref o :: st) sh M kc ks Q := x_aload_n (gcl_m d) (gopt (e := (.aload_n 0, 1, 0, 0, 0)) gt205 rfl) rfl rfl
set_option maxRecDepth 100000 in
theorem u205_665f : gR (gcl d) X 205 665 [some (.float fk), l1, l2, l3] st sh M kc ks Q = gR (gcl d) X 205 666 [some (.float fk), l1, l2, l3] (.float fk :: st) sh M kc ks Q := x_aload_nf (gcl_m d) (gopt (e := (.aload_n 0, 1, 0, 0, 0)) gt205 rfl) rfl rfl
set_option maxRecDepth 100000 in
theorem u205_666 : gR (gcl d) X 205 666 [l0, l1, l2, some (.int x)] st sh M kc ks Q = gR (gcl d) X 205 667 [l0, l1, l2, some (.int x)] (.int x :: st) sh M kc ks Q := x_iload_n (gcl_m d) (gopt (e := (.iload_n 3, 1, 0, 0, 0)) gt205 rfl) rfl rfl
set_option maxRecDepth 100000 in
theorem u205_667 : gR (gcl d) X 205 667 [l0, l1, l2, l3] st sh M kc ks Q = gR (gcl d) X 205 668 [l0, l1, l2, l3] (.int (nI 3) :: st) sh M kc ks Q := x_iconst (gcl_m d) (gopt (e := (.iconst 3, 1, 0, 0, 0)) gt205 rfl) (by decide) rfl
set_option maxRecDepth 100000 in
theorem u205_668 : gR (gcl d) X 205 668 [l0, l1, l2, l3] (.int y :: .int x :: st) sh M kc ks Q = gR (gcl d) X 205 669 [l0, l1, l2, l3] (.int (x + y) :: st) sh M kc ks Q := x_iadd (gcl_m d) (gopt (e := (.iadd, 1, 0, 0, 0)) gt205 rfl) rfl
set_option maxRecDepth 100000 in
theorem u205_669 : gR (gcl d) X 205 669 [l0, l1, l2, l3] (.int x :: .float fk :: st) sh M kc ks Q = (vp_in x (gro 205 X fk).1 ∧ gR (gcl d) X 205 670 [l0, l1, l2, l3] (.int ((gro 205 X fk).2 x.toNatClampNeg) :: st) sh M kc ks Q) := x_iaro (gcl_m d) (gopt (e := (.iaload, 1, 0, 0, 0)) gt205 rfl) rfl
set_option maxRecDepth 100000 in
theorem u205_670 : gR (gcl d) X 205 670 [l0, l1, l2, l3] (v3 :: v2 :: v1 :: .ref o :: st) sh M kc ks Q = ((gci sh o = some 6 ∧ st.length ≤ 4 ∧ gro1 205 kc ks 0 0) ∧ gcl d 91 [.ref o, v1, v2, v3] sh M fun v sh2 M2 => gR (gcl d) X 205 673 [l0, l1, l2, l3] (v ++ st) sh2 M2 kc ks Q) := x_virtk (gcl_m d) (gopt (e := (.invokevirtual 82, 3, 91, 3, 0)) gt205 rfl) rfl rfl rfl rfl rfl
set_option maxRecDepth 100000 in
theorem u205_673 : gR (gcl d) X 205 673 [l0, l1, some (.ref o), l3] st sh M kc ks Q = gR (gcl d) X 205 674 [l0, l1, some (.ref o), l3] (.ref o :: st) sh M kc ks Q := x_aload_n (gcl_m d) (gopt (e := (.aload_n 2, 1, 0, 0, 0)) gt205 rfl) rfl rfl
set_option maxRecDepth 100000 in
theorem u205_673f : gR (gcl d) X 205 673 [l0, l1, some (.float fk), l3] st sh M kc ks Q = gR (gcl d) X 205 674 [l0, l1, some (.float fk), l3] (.float fk :: st) sh M kc ks Q := x_aload_nf (gcl_m d) (gopt (e := (.aload_n 2, 1, 0, 0, 0)) gt205 rfl) rfl rfl
set_option maxRecDepth 100000 in
theorem u205_674 : gR (gcl d) X 205 674 [some (.ref o), l1, l2, l3] st sh M kc ks Q = gR (gcl d) X 205 675 [some (.ref o), l1, l2, l3] (.ref o :: st) sh M kc ks Q := x_aload_n (gcl_m d) (gopt (e := (.aload_n 0, 1, 0, 0, 0)) gt205 rfl) rfl rfl
set_option maxRecDepth 100000 in
theorem u205_674f : gR (gcl d) X 205 674 [some (.float fk), l1, l2, l3] st sh M kc ks Q = gR (gcl d) X 205 675 [some (.float fk), l1, l2, l3] (.float fk :: st) sh M kc ks Q := x_aload_nf (gcl_m d) (gopt (e := (.aload_n 0, 1, 0, 0, 0)) gt205 rfl) rfl rfl
set_option maxRecDepth 100000 in
theorem u205_675 : gR (gcl d) X 205 675 [l0, l1, l2, some (.int x)] st sh M kc ks Q = gR (gcl d) X 205 676 [l0, l1, l2, some (.int x)] (.int x :: st) sh M kc ks Q := x_iload_n (gcl_m d) (gopt (e := (.iload_n 3, 1, 0, 0, 0)) gt205 rfl) rfl rfl
set_option maxRecDepth 100000 in
theorem u205_676 : gR (gcl d) X 205 676 [l0, l1, l2, l3] st sh M kc ks Q = gR (gcl d) X 205 677 [l0, l1, l2, l3] (.int (nI 1) :: st) sh M kc ks Q := x_iconst (gcl_m d) (gopt (e := (.iconst 1, 1, 0, 0, 0)) gt205 rfl) (by decide) rfl
set_option maxRecDepth 100000 in
theorem u205_677 : gR (gcl d) X 205 677 [l0, l1, l2, l3] (.int y :: .int x :: st) sh M kc ks Q = gR (gcl d) X 205 678 [l0, l1, l2, l3] (.int (x + y) :: st) sh M kc ks Q := x_iadd (gcl_m d) (gopt (e := (.iadd, 1, 0, 0, 0)) gt205 rfl) rfl
set_option maxRecDepth 100000 in
theorem u205_678 : gR (gcl d) X 205 678 [l0, l1, l2, l3] (.int x :: .float fk :: st) sh M kc ks Q = (vp_in x (gro 205 X fk).1 ∧ gR (gcl d) X 205 679 [l0, l1, l2, l3] (.int ((gro 205 X fk).2 x.toNatClampNeg) :: st) sh M kc ks Q) := x_iaro (gcl_m d) (gopt (e := (.iaload, 1, 0, 0, 0)) gt205 rfl) rfl
set_option maxRecDepth 100000 in
theorem u205_679 : gR (gcl d) X 205 679 [some (.ref o), l1, l2, l3] st sh M kc ks Q = gR (gcl d) X 205 680 [some (.ref o), l1, l2, l3] (.ref o :: st) sh M kc ks Q := x_aload_n (gcl_m d) (gopt (e := (.aload_n 0, 1, 0, 0, 0)) gt205 rfl) rfl rfl
set_option maxRecDepth 100000 in
theorem u205_679f : gR (gcl d) X 205 679 [some (.float fk), l1, l2, l3] st sh M kc ks Q = gR (gcl d) X 205 680 [some (.float fk), l1, l2, l3] (.float fk :: st) sh M kc ks Q := x_aload_nf (gcl_m d) (gopt (e := (.aload_n 0, 1, 0, 0, 0)) gt205 rfl) rfl rfl
set_option maxRecDepth 100000 in
theorem u205_680 : gR (gcl d) X 205 680 [l0, l1, l2, some (.int x)] st sh M kc ks Q = gR (gcl d) X 205 681 [l0, l1, l2, some (.int x)] (.int x :: st) sh M kc ks Q := x_iload_n (gcl_m d) (gopt (e := (.iload_n 3, 1, 0, 0, 0)) gt205 rfl) rfl rfl
set_option maxRecDepth 100000 in
theorem u205_681 : gR (gcl d) X 205 681 [l0, l1, l2, l3] st sh M kc ks Q = gR (gcl d) X 205 682 [l0, l1, l2, l3] (.int (nI 2) :: st) sh M kc ks Q := x_iconst (gcl_m d) (gopt (e := (.iconst 2, 1, 0, 0, 0)) gt205 rfl) (by decide) rfl
set_option maxRecDepth 100000 in
theorem u205_682 : gR (gcl d) X 205 682 [l0, l1, l2, l3] (.int y :: .int x :: st) sh M kc ks Q = gR (gcl d) X 205 683 [l0, l1, l2, l3] (.int (x + y) :: st) sh M kc ks Q := x_iadd (gcl_m d) (gopt (e := (.iadd, 1, 0, 0, 0)) gt205 rfl) rfl
set_option maxRecDepth 100000 in
theorem u205_683 : gR (gcl d) X 205 683 [l0, l1, l2, l3] (.int x :: .float fk :: st) sh M kc ks Q = (vp_in x (gro 205 X fk).1 ∧ gR (gcl d) X 205 684 [l0, l1, l2, l3] (.int ((gro 205 X fk).2 x.toNatClampNeg) :: st) sh M kc ks Q) := x_iaro (gcl_m d) (gopt (e := (.iaload, 1, 0, 0, 0)) gt205 rfl) rfl
set_option maxRecDepth 100000 in
theorem u205_684 : gR (gcl d) X 205 684 [some (.ref o), l1, l2, l3] st sh M kc ks Q = gR (gcl d) X 205 685 [some (.ref o), l1, l2, l3] (.ref o :: st) sh M kc ks Q := x_aload_n (gcl_m d) (gopt (e := (.aload_n 0, 1, 0, 0, 0)) gt205 rfl) rfl rfl
set_option maxRecDepth 100000 in
theorem u205_684f : gR (gcl d) X 205 684 [some (.float fk), l1, l2, l3] st sh M kc ks Q = gR (gcl d) X 205 685 [some (.float fk), l1, l2, l3] (.float fk :: st) sh M kc ks Q := x_aload_nf (gcl_m d) (gopt (e := (.aload_n 0, 1, 0, 0, 0)) gt205 rfl) rfl rfl
set_option maxRecDepth 100000 in
theorem u205_685 : gR (gcl d) X 205 685 [l0, l1, l2, some (.int x)] st sh M kc ks Q = gR (gcl d) X 205 686 [l0, l1, l2, some (.int x)] (.int x :: st) sh M kc ks Q := x_iload_n (gcl_m d) (gopt (e := (.iload_n 3, 1, 0, 0, 0)) gt205 rfl) rfl rfl
set_option maxRecDepth 100000 in
theorem u205_686 : gR (gcl d) X 205 686 [l0, l1, l2, l3] st sh M kc ks Q = gR (gcl d) X 205 687 [l0, l1, l2, l3] (.int (nI 3) :: st) sh M kc ks Q := x_iconst (gcl_m d) (gopt (e := (.iconst 3, 1, 0, 0, 0)) gt205 rfl) (by decide) rfl
set_option maxRecDepth 100000 in
theorem u205_687 : gR (gcl d) X 205 687 [l0, l1, l2, l3] (.int y :: .int x :: st) sh M kc ks Q = gR (gcl d) X 205 688 [l0, l1, l2, l3] (.int (x + y) :: st) sh M kc ks Q := x_iadd (gcl_m d) (gopt (e := (.iadd, 1, 0, 0, 0)) gt205 rfl) rfl
set_option maxRecDepth 100000 in
theorem u205_688 : gR (gcl d) X 205 688 [l0, l1, l2, l3] (.int x :: .float fk :: st) sh M kc ks Q = (vp_in x (gro 205 X fk).1 ∧ gR (gcl d) X 205 689 [l0, l1, l2, l3] (.int ((gro 205 X fk).2 x.toNatClampNeg) :: st) sh M kc ks Q) := x_iaro (gcl_m d) (gopt (e := (.iaload, 1, 0, 0, 0)) gt205 rfl) rfl
set_option maxRecDepth 100000 in
theorem u205_689 : gR (gcl d) X 205 689 [l0, l1, l2, l3] (v3 :: v2 :: v1 :: .ref o :: st) sh M kc ks Q = ((gci sh o = some 7 ∧ st.length ≤ 4 ∧ gro1 205 kc ks 0 0) ∧ gcl d 174 [.ref o, v1, v2, v3] sh M fun v sh2 M2 => gR (gcl d) X 205 692 [l0, l1, l2, l3] (v ++ st) sh2 M2 kc ks Q) := x_virtk (gcl_m d) (gopt (e := (.invokevirtual 85, 3, 174, 3, 0)) gt205 rfl) rfl rfl rfl rfl rfl
set_option maxRecDepth 100000 in
theorem u205_692 : gR (gcl d) X 205 692 [l0, l1, l2, l3] (.int y :: .int x :: st) sh M kc ks Q = ((x = y → gR (gcl d) X 205 1222 [l0, l1, l2, l3] st sh M kc ks Q) ∧ (¬ x = y → gR (gcl d) X 205 695 [l0, l1, l2, l3] st sh M kc ks Q)) := x_icmp_eq (gcl_m d) (gopt (e := (.if_icmp .eq 530, 3, 1222, 0, 0)) gt205 rfl) rfl
set_option maxRecDepth 100000 in
theorem u205_695 : gR (gcl d) X 205 695 [l0, l1, l2, l3] st sh M kc ks Q = gR (gcl d) X 205 696 [l0, l1, l2, l3] (.int (nI 0) :: st) sh M kc ks Q := x_iconst (gcl_m d) (gopt (e := (.iconst 0, 1, 0, 0, 0)) gt205 rfl) (by decide) rfl
set_option maxRecDepth 100000 in
theorem u205_696 : gR (gcl d) X 205 696 [l0, l1, l2, l3] [.int (nI 1)] sh M kc ks Q = (gfin 205 kc ks ∧ Q [.int (nI 1)] sh M) := x_retk (gcl_m d) (gopt (e := (.ireturn, 1, 0, 0, 0)) gt205 rfl) (Or.inr ⟨rfl, Or.inr (by decide)⟩)
set_option maxRecDepth 100000 in
theorem u205_697 : gR (gcl d) X 205 697 [l0, some (.ref o), l2, l3] st sh M kc ks Q = gR (gcl d) X 205 698 [l0, some (.ref o), l2, l3] (.ref o :: st) sh M kc ks Q := x_aload_n (gcl_m d) (gopt (e := (.aload_n 1, 1, 0, 0, 0)) gt205 rfl) rfl rfl
set_option maxRecDepth 100000 in
theorem u205_697f : gR (gcl d) X 205 697 [l0, some (.float fk), l2, l3] st sh M kc ks Q = gR (gcl d) X 205 698 [l0, some (.float fk), l2, l3] (.float fk :: st) sh M kc ks Q := x_aload_nf (gcl_m d) (gopt (e := (.aload_n 1, 1, 0, 0, 0)) gt205 rfl) rfl rfl
set_option maxRecDepth 100000 in
theorem u205_698 : gR (gcl d) X 205 698 [some (.ref o), l1, l2, l3] st sh M kc ks Q = gR (gcl d) X 205 699 [some (.ref o), l1, l2, l3] (.ref o :: st) sh M kc ks Q := x_aload_n (gcl_m d) (gopt (e := (.aload_n 0, 1, 0, 0, 0)) gt205 rfl) rfl rfl
set_option maxRecDepth 100000 in
theorem u205_698f : gR (gcl d) X 205 698 [some (.float fk), l1, l2, l3] st sh M kc ks Q = gR (gcl d) X 205 699 [some (.float fk), l1, l2, l3] (.float fk :: st) sh M kc ks Q := x_aload_nf (gcl_m d) (gopt (e := (.aload_n 0, 1, 0, 0, 0)) gt205 rfl) rfl rfl
set_option maxRecDepth 100000 in
theorem u205_699 : gR (gcl d) X 205 699 [l0, l1, l2, some (.int x)] st sh M kc ks Q = gR (gcl d) X 205 700 [l0, l1, l2, some (.int x)] (.int x :: st) sh M kc ks Q := x_iload_n (gcl_m d) (gopt (e := (.iload_n 3, 1, 0, 0, 0)) gt205 rfl) rfl rfl
set_option maxRecDepth 100000 in
theorem u205_700 : gR (gcl d) X 205 700 [l0, l1, l2, l3] st sh M kc ks Q = gR (gcl d) X 205 701 [l0, l1, l2, l3] (.int (nI 1) :: st) sh M kc ks Q := x_iconst (gcl_m d) (gopt (e := (.iconst 1, 1, 0, 0, 0)) gt205 rfl) (by decide) rfl
set_option maxRecDepth 100000 in
theorem u205_701 : gR (gcl d) X 205 701 [l0, l1, l2, l3] (.int y :: .int x :: st) sh M kc ks Q = gR (gcl d) X 205 702 [l0, l1, l2, l3] (.int (x + y) :: st) sh M kc ks Q := x_iadd (gcl_m d) (gopt (e := (.iadd, 1, 0, 0, 0)) gt205 rfl) rfl
set_option maxRecDepth 100000 in
theorem u205_702 : gR (gcl d) X 205 702 [l0, l1, l2, l3] (.int x :: .float fk :: st) sh M kc ks Q = (vp_in x (gro 205 X fk).1 ∧ gR (gcl d) X 205 703 [l0, l1, l2, l3] (.int ((gro 205 X fk).2 x.toNatClampNeg) :: st) sh M kc ks Q) := x_iaro (gcl_m d) (gopt (e := (.iaload, 1, 0, 0, 0)) gt205 rfl) rfl
set_option maxRecDepth 100000 in
theorem u205_703 : gR (gcl d) X 205 703 [l0, l1, l2, l3] (v1 :: .ref o :: st) sh M kc ks Q = ((gci sh o = some 6 ∧ st.length ≤ 4 ∧ gro1 205 kc ks 0 0) ∧ gcl d 92 [.ref o, v1] sh M fun v sh2 M2 => gR (gcl d) X 205 706 [l0, l1, l2, l3] (v ++ st) sh2 M2 kc ks Q) := x_virtk (gcl_m d) (gopt (e := (.invokevirtual 86, 3, 92, 1, 0)) gt205 rfl) rfl rfl rfl rfl rfl
set_option maxRecDepth 100000 in
theorem u205_706 : gR (gcl d) X 205 706 [l0, l1, some (.ref o), l3] st sh M kc ks Q = gR (gcl d) X 205 707 [l0, l1, some (.ref o), l3] (.ref o :: st) sh M kc ks Q := x_aload_n (gcl_m d) (gopt (e := (.aload_n 2, 1, 0, 0, 0)) gt205 rfl) rfl rfl
set_option maxRecDepth 100000 in
theorem u205_706f : gR (gcl d) X 205 706 [l0, l1, some (.float fk), l3] st sh M kc ks Q = gR (gcl d) X 205 707 [l0, l1, some (.float fk), l3] (.float fk :: st) sh M kc ks Q := x_aload_nf (gcl_m d) (gopt (e := (.aload_n 2, 1, 0, 0, 0)) gt205 rfl) rfl rfl
set_option maxRecDepth 100000 in
theorem u205_707 : gR (gcl d) X 205 707 [some (.ref o), l1, l2, l3] st sh M kc ks Q = gR (gcl d) X 205 708 [some (.ref o), l1, l2, l3] (.ref o :: st) sh M kc ks Q := x_aload_n (gcl_m d) (gopt (e := (.aload_n 0, 1, 0, 0, 0)) gt205 rfl) rfl rfl
set_option maxRecDepth 100000 in
theorem u205_707f : gR (gcl d) X 205 707 [some (.float fk), l1, l2, l3] st sh M kc ks Q = gR (gcl d) X 205 708 [some (.float fk), l1, l2, l3] (.float fk :: st) sh M kc ks Q := x_aload_nf (gcl_m d) (gopt (e := (.aload_n 0, 1, 0, 0, 0)) gt205 rfl) rfl rfl
set_option maxRecDepth 100000 in
theorem u205_708 : gR (gcl d) X 205 708 [l0, l1, l2, some (.int x)] st sh M kc ks Q = gR (gcl d) X 205 709 [l0, l1, l2, some (.int x)] (.int x :: st) sh M kc ks Q := x_iload_n (gcl_m d) (gopt (e := (.iload_n 3, 1, 0, 0, 0)) gt205 rfl) rfl rfl
set_option maxRecDepth 100000 in
theorem u205_709 : gR (gcl d) X 205 709 [l0, l1, l2, l3] st sh M kc ks Q = gR (gcl d) X 205 710 [l0, l1, l2, l3] (.int (nI 1) :: st) sh M kc ks Q := x_iconst (gcl_m d) (gopt (e := (.iconst 1, 1, 0, 0, 0)) gt205 rfl) (by decide) rfl
set_option maxRecDepth 100000 in
theorem u205_710 : gR (gcl d) X 205 710 [l0, l1, l2, l3] (.int y :: .int x :: st) sh M kc ks Q = gR (gcl d) X 205 711 [l0, l1, l2, l3] (.int (x + y) :: st) sh M kc ks Q := x_iadd (gcl_m d) (gopt (e := (.iadd, 1, 0, 0, 0)) gt205 rfl) rfl
set_option maxRecDepth 100000 in
theorem u205_711 : gR (gcl d) X 205 711 [l0, l1, l2, l3] (.int x :: .float fk :: st) sh M kc ks Q = (vp_in x (gro 205 X fk).1 ∧ gR (gcl d) X 205 712 [l0, l1, l2, l3] (.int ((gro 205 X fk).2 x.toNatClampNeg) :: st) sh M kc ks Q) := x_iaro (gcl_m d) (gopt (e := (.iaload, 1, 0, 0, 0)) gt205 rfl) rfl
set_option maxRecDepth 100000 in
theorem u205_712 : gR (gcl d) X 205 712 [l0, l1, l2, l3] (v1 :: .ref o :: st) sh M kc ks Q = ((gci sh o = some 7 ∧ st.length ≤ 4 ∧ gro1 205 kc ks 0 0) ∧ gcl d 175 [.ref o, v1] sh M fun v sh2 M2 => gR (gcl d) X 205 715 [l0, l1, l2, l3] (v ++ st) sh2 M2 kc ks Q) := x_virtk (gcl_m d) (gopt (e := (.invokevirtual 89, 3, 175, 1, 0)) gt205 rfl) rfl rfl rfl rfl rfl
set_option maxRecDepth 100000 in
theorem u205_715 : gR (gcl d) X 205 715 [l0, l1, l2, l3] (.int y :: .int x :: st) sh M kc ks Q = ((x = y → gR (gcl d) X 205 1222 [l0, l1, l2, l3] st sh M kc ks Q) ∧ (¬ x = y → gR (gcl d) X 205 718 [l0, l1, l2, l3] st sh M kc ks Q)) := x_icmp_eq (gcl_m d) (gopt (e := (.if_icmp .eq 507, 3, 1222, 0, 0)) gt205 rfl) rfl
set_option maxRecDepth 100000 in
theorem u205_718 : gR (gcl d) X 205 718 [l0, l1, l2, l3] st sh M kc ks Q = gR (gcl d) X 205 719 [l0, l1, l2, l3] (.int (nI 0) :: st) sh M kc ks Q := x_iconst (gcl_m d) (gopt (e := (.iconst 0, 1, 0, 0, 0)) gt205 rfl) (by decide) rfl
set_option maxRecDepth 100000 in
theorem u205_719 : gR (gcl d) X 205 719 [l0, l1, l2, l3] [.int (nI 1)] sh M kc ks Q = (gfin 205 kc ks ∧ Q [.int (nI 1)] sh M) := x_retk (gcl_m d) (gopt (e := (.ireturn, 1, 0, 0, 0)) gt205 rfl) (Or.inr ⟨rfl, Or.inr (by decide)⟩)
set_option maxRecDepth 100000 in
theorem u205_720 : gR (gcl d) X 205 720 [l0, some (.ref o), l2, l3] st sh M kc ks Q = gR (gcl d) X 205 721 [l0, some (.ref o), l2, l3] (.ref o :: st) sh M kc ks Q := x_aload_n (gcl_m d) (gopt (e := (.aload_n 1, 1, 0, 0, 0)) gt205 rfl) rfl rfl
set_option maxRecDepth 100000 in
theorem u205_720f : gR (gcl d) X 205 720 [l0, some (.float fk), l2, l3] st sh M kc ks Q = gR (gcl d) X 205 721 [l0, some (.float fk), l2, l3] (.float fk :: st) sh M kc ks Q := x_aload_nf (gcl_m d) (gopt (e := (.aload_n 1, 1, 0, 0, 0)) gt205 rfl) rfl rfl
set_option maxRecDepth 100000 in
theorem u205_721 : gR (gcl d) X 205 721 [some (.ref o), l1, l2, l3] st sh M kc ks Q = gR (gcl d) X 205 722 [some (.ref o), l1, l2, l3] (.ref o :: st) sh M kc ks Q := x_aload_n (gcl_m d) (gopt (e := (.aload_n 0, 1, 0, 0, 0)) gt205 rfl) rfl rfl
set_option maxRecDepth 100000 in
theorem u205_721f : gR (gcl d) X 205 721 [some (.float fk), l1, l2, l3] st sh M kc ks Q = gR (gcl d) X 205 722 [some (.float fk), l1, l2, l3] (.float fk :: st) sh M kc ks Q := x_aload_nf (gcl_m d) (gopt (e := (.aload_n 0, 1, 0, 0, 0)) gt205 rfl) rfl rfl
set_option maxRecDepth 100000 in
theorem u205_722 : gR (gcl d) X 205 722 [l0, l1, l2, some (.int x)] st sh M kc ks Q = gR (gcl d) X 205 723 [l0, l1, l2, some (.int x)] (.int x :: st) sh M kc ks Q := x_iload_n (gcl_m d) (gopt (e := (.iload_n 3, 1, 0, 0, 0)) gt205 rfl) rfl rfl
set_option maxRecDepth 100000 in
theorem u205_723 : gR (gcl d) X 205 723 [l0, l1, l2, l3] st sh M kc ks Q = gR (gcl d) X 205 724 [l0, l1, l2, l3] (.int (nI 1) :: st) sh M kc ks Q := x_iconst (gcl_m d) (gopt (e := (.iconst 1, 1, 0, 0, 0)) gt205 rfl) (by decide) rfl
set_option maxRecDepth 100000 in
theorem u205_724 : gR (gcl d) X 205 724 [l0, l1, l2, l3] (.int y :: .int x :: st) sh M kc ks Q = gR (gcl d) X 205 725 [l0, l1, l2, l3] (.int (x + y) :: st) sh M kc ks Q := x_iadd (gcl_m d) (gopt (e := (.iadd, 1, 0, 0, 0)) gt205 rfl) rfl
set_option maxRecDepth 100000 in
theorem u205_725 : gR (gcl d) X 205 725 [l0, l1, l2, l3] (.int x :: .float fk :: st) sh M kc ks Q = (vp_in x (gro 205 X fk).1 ∧ gR (gcl d) X 205 726 [l0, l1, l2, l3] (.int ((gro 205 X fk).2 x.toNatClampNeg) :: st) sh M kc ks Q) := x_iaro (gcl_m d) (gopt (e := (.iaload, 1, 0, 0, 0)) gt205 rfl) rfl
set_option maxRecDepth 100000 in
theorem u205_726 : gR (gcl d) X 205 726 [some (.ref o), l1, l2, l3] st sh M kc ks Q = gR (gcl d) X 205 727 [some (.ref o), l1, l2, l3] (.ref o :: st) sh M kc ks Q := x_aload_n (gcl_m d) (gopt (e := (.aload_n 0, 1, 0, 0, 0)) gt205 rfl) rfl rfl
set_option maxRecDepth 100000 in
theorem u205_726f : gR (gcl d) X 205 726 [some (.float fk), l1, l2, l3] st sh M kc ks Q = gR (gcl d) X 205 727 [some (.float fk), l1, l2, l3] (.float fk :: st) sh M kc ks Q := x_aload_nf (gcl_m d) (gopt (e := (.aload_n 0, 1, 0, 0, 0)) gt205 rfl) rfl rfl
set_option maxRecDepth 100000 in
theorem u205_727 : gR (gcl d) X 205 727 [l0, l1, l2, some (.int x)] st sh M kc ks Q = gR (gcl d) X 205 728 [l0, l1, l2, some (.int x)] (.int x :: st) sh M kc ks Q := x_iload_n (gcl_m d) (gopt (e := (.iload_n 3, 1, 0, 0, 0)) gt205 rfl) rfl rfl
set_option maxRecDepth 100000 in
theorem u205_728 : gR (gcl d) X 205 728 [l0, l1, l2, l3] st sh M kc ks Q = gR (gcl d) X 205 729 [l0, l1, l2, l3] (.int (nI 2) :: st) sh M kc ks Q := x_iconst (gcl_m d) (gopt (e := (.iconst 2, 1, 0, 0, 0)) gt205 rfl) (by decide) rfl
set_option maxRecDepth 100000 in
theorem u205_729 : gR (gcl d) X 205 729 [l0, l1, l2, l3] (.int y :: .int x :: st) sh M kc ks Q = gR (gcl d) X 205 730 [l0, l1, l2, l3] (.int (x + y) :: st) sh M kc ks Q := x_iadd (gcl_m d) (gopt (e := (.iadd, 1, 0, 0, 0)) gt205 rfl) rfl
set_option maxRecDepth 100000 in
theorem u205_730 : gR (gcl d) X 205 730 [l0, l1, l2, l3] (.int x :: .float fk :: st) sh M kc ks Q = (vp_in x (gro 205 X fk).1 ∧ gR (gcl d) X 205 731 [l0, l1, l2, l3] (.int ((gro 205 X fk).2 x.toNatClampNeg) :: st) sh M kc ks Q) := x_iaro (gcl_m d) (gopt (e := (.iaload, 1, 0, 0, 0)) gt205 rfl) rfl
set_option maxRecDepth 100000 in
theorem u205_731 : gR (gcl d) X 205 731 [some (.ref o), l1, l2, l3] st sh M kc ks Q = gR (gcl d) X 205 732 [some (.ref o), l1, l2, l3] (.ref o :: st) sh M kc ks Q := x_aload_n (gcl_m d) (gopt (e := (.aload_n 0, 1, 0, 0, 0)) gt205 rfl) rfl rfl
set_option maxRecDepth 100000 in
theorem u205_731f : gR (gcl d) X 205 731 [some (.float fk), l1, l2, l3] st sh M kc ks Q = gR (gcl d) X 205 732 [some (.float fk), l1, l2, l3] (.float fk :: st) sh M kc ks Q := x_aload_nf (gcl_m d) (gopt (e := (.aload_n 0, 1, 0, 0, 0)) gt205 rfl) rfl rfl
set_option maxRecDepth 100000 in
theorem u205_732 : gR (gcl d) X 205 732 [l0, l1, l2, some (.int x)] st sh M kc ks Q = gR (gcl d) X 205 733 [l0, l1, l2, some (.int x)] (.int x :: st) sh M kc ks Q := x_iload_n (gcl_m d) (gopt (e := (.iload_n 3, 1, 0, 0, 0)) gt205 rfl) rfl rfl
set_option maxRecDepth 100000 in
theorem u205_733 : gR (gcl d) X 205 733 [l0, l1, l2, l3] st sh M kc ks Q = gR (gcl d) X 205 734 [l0, l1, l2, l3] (.int (nI 3) :: st) sh M kc ks Q := x_iconst (gcl_m d) (gopt (e := (.iconst 3, 1, 0, 0, 0)) gt205 rfl) (by decide) rfl
set_option maxRecDepth 100000 in
theorem u205_734 : gR (gcl d) X 205 734 [l0, l1, l2, l3] (.int y :: .int x :: st) sh M kc ks Q = gR (gcl d) X 205 735 [l0, l1, l2, l3] (.int (x + y) :: st) sh M kc ks Q := x_iadd (gcl_m d) (gopt (e := (.iadd, 1, 0, 0, 0)) gt205 rfl) rfl
set_option maxRecDepth 100000 in
theorem u205_735 : gR (gcl d) X 205 735 [l0, l1, l2, l3] (.int x :: .float fk :: st) sh M kc ks Q = (vp_in x (gro 205 X fk).1 ∧ gR (gcl d) X 205 736 [l0, l1, l2, l3] (.int ((gro 205 X fk).2 x.toNatClampNeg) :: st) sh M kc ks Q) := x_iaro (gcl_m d) (gopt (e := (.iaload, 1, 0, 0, 0)) gt205 rfl) rfl
set_option maxRecDepth 100000 in
theorem u205_736 : gR (gcl d) X 205 736 [l0, l1, l2, l3] (v3 :: v2 :: v1 :: .ref o :: st) sh M kc ks Q = ((gci sh o = some 6 ∧ st.length ≤ 4 ∧ gro1 205 kc ks 0 0) ∧ gcl d 93 [.ref o, v1, v2, v3] sh M fun v sh2 M2 => gR (gcl d) X 205 739 [l0, l1, l2, l3] (v ++ st) sh2 M2 kc ks Q) := x_virtk (gcl_m d) (gopt (e := (.invokevirtual 90, 3, 93, 3, 0)) gt205 rfl) rfl rfl rfl rfl rfl
set_option maxRecDepth 100000 in
theorem u205_739 : gR (gcl d) X 205 739 [l0, l1, some (.ref o), l3] st sh M kc ks Q = gR (gcl d) X 205 740 [l0, l1, some (.ref o), l3] (.ref o :: st) sh M kc ks Q := x_aload_n (gcl_m d) (gopt (e := (.aload_n 2, 1, 0, 0, 0)) gt205 rfl) rfl rfl
set_option maxRecDepth 100000 in
theorem u205_739f : gR (gcl d) X 205 739 [l0, l1, some (.float fk), l3] st sh M kc ks Q = gR (gcl d) X 205 740 [l0, l1, some (.float fk), l3] (.float fk :: st) sh M kc ks Q := x_aload_nf (gcl_m d) (gopt (e := (.aload_n 2, 1, 0, 0, 0)) gt205 rfl) rfl rfl
set_option maxRecDepth 100000 in
theorem u205_740 : gR (gcl d) X 205 740 [some (.ref o), l1, l2, l3] st sh M kc ks Q = gR (gcl d) X 205 741 [some (.ref o), l1, l2, l3] (.ref o :: st) sh M kc ks Q := x_aload_n (gcl_m d) (gopt (e := (.aload_n 0, 1, 0, 0, 0)) gt205 rfl) rfl rfl
set_option maxRecDepth 100000 in
theorem u205_740f : gR (gcl d) X 205 740 [some (.float fk), l1, l2, l3] st sh M kc ks Q = gR (gcl d) X 205 741 [some (.float fk), l1, l2, l3] (.float fk :: st) sh M kc ks Q := x_aload_nf (gcl_m d) (gopt (e := (.aload_n 0, 1, 0, 0, 0)) gt205 rfl) rfl rfl
set_option maxRecDepth 100000 in
theorem u205_741 : gR (gcl d) X 205 741 [l0, l1, l2, some (.int x)] st sh M kc ks Q = gR (gcl d) X 205 742 [l0, l1, l2, some (.int x)] (.int x :: st) sh M kc ks Q := x_iload_n (gcl_m d) (gopt (e := (.iload_n 3, 1, 0, 0, 0)) gt205 rfl) rfl rfl
set_option maxRecDepth 100000 in
theorem u205_742 : gR (gcl d) X 205 742 [l0, l1, l2, l3] st sh M kc ks Q = gR (gcl d) X 205 743 [l0, l1, l2, l3] (.int (nI 1) :: st) sh M kc ks Q := x_iconst (gcl_m d) (gopt (e := (.iconst 1, 1, 0, 0, 0)) gt205 rfl) (by decide) rfl
set_option maxRecDepth 100000 in
theorem u205_743 : gR (gcl d) X 205 743 [l0, l1, l2, l3] (.int y :: .int x :: st) sh M kc ks Q = gR (gcl d) X 205 744 [l0, l1, l2, l3] (.int (x + y) :: st) sh M kc ks Q := x_iadd (gcl_m d) (gopt (e := (.iadd, 1, 0, 0, 0)) gt205 rfl) rfl
set_option maxRecDepth 100000 in
theorem u205_744 : gR (gcl d) X 205 744 [l0, l1, l2, l3] (.int x :: .float fk :: st) sh M kc ks Q = (vp_in x (gro 205 X fk).1 ∧ gR (gcl d) X 205 745 [l0, l1, l2, l3] (.int ((gro 205 X fk).2 x.toNatClampNeg) :: st) sh M kc ks Q) := x_iaro (gcl_m d) (gopt (e := (.iaload, 1, 0, 0, 0)) gt205 rfl) rfl
set_option maxRecDepth 100000 in
theorem u205_745 : gR (gcl d) X 205 745 [some (.ref o), l1, l2, l3] st sh M kc ks Q = gR (gcl d) X 205 746 [some (.ref o), l1, l2, l3] (.ref o :: st) sh M kc ks Q := x_aload_n (gcl_m d) (gopt (e := (.aload_n 0, 1, 0, 0, 0)) gt205 rfl) rfl rfl
set_option maxRecDepth 100000 in
theorem u205_745f : gR (gcl d) X 205 745 [some (.float fk), l1, l2, l3] st sh M kc ks Q = gR (gcl d) X 205 746 [some (.float fk), l1, l2, l3] (.float fk :: st) sh M kc ks Q := x_aload_nf (gcl_m d) (gopt (e := (.aload_n 0, 1, 0, 0, 0)) gt205 rfl) rfl rfl
set_option maxRecDepth 100000 in
theorem u205_746 : gR (gcl d) X 205 746 [l0, l1, l2, some (.int x)] st sh M kc ks Q = gR (gcl d) X 205 747 [l0, l1, l2, some (.int x)] (.int x :: st) sh M kc ks Q := x_iload_n (gcl_m d) (gopt (e := (.iload_n 3, 1, 0, 0, 0)) gt205 rfl) rfl rfl
set_option maxRecDepth 100000 in
theorem u205_747 : gR (gcl d) X 205 747 [l0, l1, l2, l3] st sh M kc ks Q = gR (gcl d) X 205 748 [l0, l1, l2, l3] (.int (nI 2) :: st) sh M kc ks Q := x_iconst (gcl_m d) (gopt (e := (.iconst 2, 1, 0, 0, 0)) gt205 rfl) (by decide) rfl
set_option maxRecDepth 100000 in
theorem u205_748 : gR (gcl d) X 205 748 [l0, l1, l2, l3] (.int y :: .int x :: st) sh M kc ks Q = gR (gcl d) X 205 749 [l0, l1, l2, l3] (.int (x + y) :: st) sh M kc ks Q := x_iadd (gcl_m d) (gopt (e := (.iadd, 1, 0, 0, 0)) gt205 rfl) rfl
set_option maxRecDepth 100000 in
theorem u205_749 : gR (gcl d) X 205 749 [l0, l1, l2, l3] (.int x :: .float fk :: st) sh M kc ks Q = (vp_in x (gro 205 X fk).1 ∧ gR (gcl d) X 205 750 [l0, l1, l2, l3] (.int ((gro 205 X fk).2 x.toNatClampNeg) :: st) sh M kc ks Q) := x_iaro (gcl_m d) (gopt (e := (.iaload, 1, 0, 0, 0)) gt205 rfl) rfl
set_option maxRecDepth 100000 in
theorem u205_750 : gR (gcl d) X 205 750 [some (.ref o), l1, l2, l3] st sh M kc ks Q = gR (gcl d) X 205 751 [some (.ref o), l1, l2, l3] (.ref o :: st) sh M kc ks Q := x_aload_n (gcl_m d) (gopt (e := (.aload_n 0, 1, 0, 0, 0)) gt205 rfl) rfl rfl
set_option maxRecDepth 100000 in
theorem u205_750f : gR (gcl d) X 205 750 [some (.float fk), l1, l2, l3] st sh M kc ks Q = gR (gcl d) X 205 751 [some (.float fk), l1, l2, l3] (.float fk :: st) sh M kc ks Q := x_aload_nf (gcl_m d) (gopt (e := (.aload_n 0, 1, 0, 0, 0)) gt205 rfl) rfl rfl
set_option maxRecDepth 100000 in
theorem u205_751 : gR (gcl d) X 205 751 [l0, l1, l2, some (.int x)] st sh M kc ks Q = gR (gcl d) X 205 752 [l0, l1, l2, some (.int x)] (.int x :: st) sh M kc ks Q := x_iload_n (gcl_m d) (gopt (e := (.iload_n 3, 1, 0, 0, 0)) gt205 rfl) rfl rfl
set_option maxRecDepth 100000 in
theorem u205_752 : gR (gcl d) X 205 752 [l0, l1, l2, l3] st sh M kc ks Q = gR (gcl d) X 205 753 [l0, l1, l2, l3] (.int (nI 3) :: st) sh M kc ks Q := x_iconst (gcl_m d) (gopt (e := (.iconst 3, 1, 0, 0, 0)) gt205 rfl) (by decide) rfl
set_option maxRecDepth 100000 in
theorem u205_753 : gR (gcl d) X 205 753 [l0, l1, l2, l3] (.int y :: .int x :: st) sh M kc ks Q = gR (gcl d) X 205 754 [l0, l1, l2, l3] (.int (x + y) :: st) sh M kc ks Q := x_iadd (gcl_m d) (gopt (e := (.iadd, 1, 0, 0, 0)) gt205 rfl) rfl
set_option maxRecDepth 100000 in
theorem u205_754 : gR (gcl d) X 205 754 [l0, l1, l2, l3] (.int x :: .float fk :: st) sh M kc ks Q = (vp_in x (gro 205 X fk).1 ∧ gR (gcl d) X 205 755 [l0, l1, l2, l3] (.int ((gro 205 X fk).2 x.toNatClampNeg) :: st) sh M kc ks Q) := x_iaro (gcl_m d) (gopt (e := (.iaload, 1, 0, 0, 0)) gt205 rfl) rfl
set_option maxRecDepth 100000 in
theorem u205_755 : gR (gcl d) X 205 755 [l0, l1, l2, l3] (v3 :: v2 :: v1 :: .ref o :: st) sh M kc ks Q = ((gci sh o = some 7 ∧ st.length ≤ 4 ∧ gro1 205 kc ks 0 0) ∧ gcl d 176 [.ref o, v1, v2, v3] sh M fun v sh2 M2 => gR (gcl d) X 205 758 [l0, l1, l2, l3] (v ++ st) sh2 M2 kc ks Q) := x_virtk (gcl_m d) (gopt (e := (.invokevirtual 93, 3, 176, 3, 0)) gt205 rfl) rfl rfl rfl rfl rfl
set_option maxRecDepth 100000 in
theorem u205_758 : gR (gcl d) X 205 758 [l0, l1, l2, l3] (.int y :: .int x :: st) sh M kc ks Q = ((x = y → gR (gcl d) X 205 1222 [l0, l1, l2, l3] st sh M kc ks Q) ∧ (¬ x = y → gR (gcl d) X 205 761 [l0, l1, l2, l3] st sh M kc ks Q)) := x_icmp_eq (gcl_m d) (gopt (e := (.if_icmp .eq 464, 3, 1222, 0, 0)) gt205 rfl) rfl
set_option maxRecDepth 100000 in
theorem u205_761 : gR (gcl d) X 205 761 [l0, l1, l2, l3] st sh M kc ks Q = gR (gcl d) X 205 762 [l0, l1, l2, l3] (.int (nI 0) :: st) sh M kc ks Q := x_iconst (gcl_m d) (gopt (e := (.iconst 0, 1, 0, 0, 0)) gt205 rfl) (by decide) rfl
set_option maxRecDepth 100000 in
theorem u205_762 : gR (gcl d) X 205 762 [l0, l1, l2, l3] [.int (nI 1)] sh M kc ks Q = (gfin 205 kc ks ∧ Q [.int (nI 1)] sh M) := x_retk (gcl_m d) (gopt (e := (.ireturn, 1, 0, 0, 0)) gt205 rfl) (Or.inr ⟨rfl, Or.inr (by decide)⟩)
set_option maxRecDepth 100000 in
theorem u205_763 : gR (gcl d) X 205 763 [l0, some (.ref o), l2, l3] st sh M kc ks Q = gR (gcl d) X 205 764 [l0, some (.ref o), l2, l3] (.ref o :: st) sh M kc ks Q := x_aload_n (gcl_m d) (gopt (e := (.aload_n 1, 1, 0, 0, 0)) gt205 rfl) rfl rfl
set_option maxRecDepth 100000 in
theorem u205_763f : gR (gcl d) X 205 763 [l0, some (.float fk), l2, l3] st sh M kc ks Q = gR (gcl d) X 205 764 [l0, some (.float fk), l2, l3] (.float fk :: st) sh M kc ks Q := x_aload_nf (gcl_m d) (gopt (e := (.aload_n 1, 1, 0, 0, 0)) gt205 rfl) rfl rfl
set_option maxRecDepth 100000 in
theorem u205_764 : gR (gcl d) X 205 764 [some (.ref o), l1, l2, l3] st sh M kc ks Q = gR (gcl d) X 205 765 [some (.ref o), l1, l2, l3] (.ref o :: st) sh M kc ks Q := x_aload_n (gcl_m d) (gopt (e := (.aload_n 0, 1, 0, 0, 0)) gt205 rfl) rfl rfl
set_option maxRecDepth 100000 in
theorem u205_764f : gR (gcl d) X 205 764 [some (.float fk), l1, l2, l3] st sh M kc ks Q = gR (gcl d) X 205 765 [some (.float fk), l1, l2, l3] (.float fk :: st) sh M kc ks Q := x_aload_nf (gcl_m d) (gopt (e := (.aload_n 0, 1, 0, 0, 0)) gt205 rfl) rfl rfl
set_option maxRecDepth 100000 in
theorem u205_765 : gR (gcl d) X 205 765 [l0, l1, l2, some (.int x)] st sh M kc ks Q = gR (gcl d) X 205 766 [l0, l1, l2, some (.int x)] (.int x :: st) sh M kc ks Q := x_iload_n (gcl_m d) (gopt (e := (.iload_n 3, 1, 0, 0, 0)) gt205 rfl) rfl rfl
set_option maxRecDepth 100000 in
theorem u205_766 : gR (gcl d) X 205 766 [l0, l1, l2, l3] st sh M kc ks Q = gR (gcl d) X 205 767 [l0, l1, l2, l3] (.int (nI 1) :: st) sh M kc ks Q := x_iconst (gcl_m d) (gopt (e := (.iconst 1, 1, 0, 0, 0)) gt205 rfl) (by decide) rfl
set_option maxRecDepth 100000 in
theorem u205_767 : gR (gcl d) X 205 767 [l0, l1, l2, l3] (.int y :: .int x :: st) sh M kc ks Q = gR (gcl d) X 205 768 [l0, l1, l2, l3] (.int (x + y) :: st) sh M kc ks Q := x_iadd (gcl_m d) (gopt (e := (.iadd, 1, 0, 0, 0)) gt205 rfl) rfl
set_option maxRecDepth 100000 in
theorem u205_768 : gR (gcl d) X 205 768 [l0, l1, l2, l3] (.int x :: .float fk :: st) sh M kc ks Q = (vp_in x (gro 205 X fk).1 ∧ gR (gcl d) X 205 769 [l0, l1, l2, l3] (.int ((gro 205 X fk).2 x.toNatClampNeg) :: st) sh M kc ks Q) := x_iaro (gcl_m d) (gopt (e := (.iaload, 1, 0, 0, 0)) gt205 rfl) rfl
set_option maxRecDepth 100000 in
theorem u205_769 : gR (gcl d) X 205 769 [some (.ref o), l1, l2, l3] st sh M kc ks Q = gR (gcl d) X 205 770 [some (.ref o), l1, l2, l3] (.ref o :: st) sh M kc ks Q := x_aload_n (gcl_m d) (gopt (e := (.aload_n 0, 1, 0, 0, 0)) gt205 rfl) rfl rfl
set_option maxRecDepth 100000 in
theorem u205_769f : gR (gcl d) X 205 769 [some (.float fk), l1, l2, l3] st sh M kc ks Q = gR (gcl d) X 205 770 [some (.float fk), l1, l2, l3] (.float fk :: st) sh M kc ks Q := x_aload_nf (gcl_m d) (gopt (e := (.aload_n 0, 1, 0, 0, 0)) gt205 rfl) rfl rfl
set_option maxRecDepth 100000 in
theorem u205_770 : gR (gcl d) X 205 770 [l0, l1, l2, some (.int x)] st sh M kc ks Q = gR (gcl d) X 205 771 [l0, l1, l2, some (.int x)] (.int x :: st) sh M kc ks Q := x_iload_n (gcl_m d) (gopt (e := (.iload_n 3, 1, 0, 0, 0)) gt205 rfl) rfl rfl
set_option maxRecDepth 100000 in
theorem u205_771 : gR (gcl d) X 205 771 [l0, l1, l2, l3] st sh M kc ks Q = gR (gcl d) X 205 772 [l0, l1, l2, l3] (.int (nI 2) :: st) sh M kc ks Q := x_iconst (gcl_m d) (gopt (e := (.iconst 2, 1, 0, 0, 0)) gt205 rfl) (by decide) rfl
set_option maxRecDepth 100000 in
theorem u205_772 : gR (gcl d) X 205 772 [l0, l1, l2, l3] (.int y :: .int x :: st) sh M kc ks Q = gR (gcl d) X 205 773 [l0, l1, l2, l3] (.int (x + y) :: st) sh M kc ks Q := x_iadd (gcl_m d) (gopt (e := (.iadd, 1, 0, 0, 0)) gt205 rfl) rfl
set_option maxRecDepth 100000 in
theorem u205_773 : gR (gcl d) X 205 773 [l0, l1, l2, l3] (.int x :: .float fk :: st) sh M kc ks Q = (vp_in x (gro 205 X fk).1 ∧ gR (gcl d) X 205 774 [l0, l1, l2, l3] (.int ((gro 205 X fk).2 x.toNatClampNeg) :: st) sh M kc ks Q) := x_iaro (gcl_m d) (gopt (e := (.iaload, 1, 0, 0, 0)) gt205 rfl) rfl
set_option maxRecDepth 100000 in
theorem u205_774 : gR (gcl d) X 205 774 [some (.ref o), l1, l2, l3] st sh M kc ks Q = gR (gcl d) X 205 775 [some (.ref o), l1, l2, l3] (.ref o :: st) sh M kc ks Q := x_aload_n (gcl_m d) (gopt (e := (.aload_n 0, 1, 0, 0, 0)) gt205 rfl) rfl rfl
set_option maxRecDepth 100000 in
theorem u205_774f : gR (gcl d) X 205 774 [some (.float fk), l1, l2, l3] st sh M kc ks Q = gR (gcl d) X 205 775 [some (.float fk), l1, l2, l3] (.float fk :: st) sh M kc ks Q := x_aload_nf (gcl_m d) (gopt (e := (.aload_n 0, 1, 0, 0, 0)) gt205 rfl) rfl rfl
set_option maxRecDepth 100000 in
theorem u205_775 : gR (gcl d) X 205 775 [l0, l1, l2, some (.int x)] st sh M kc ks Q = gR (gcl d) X 205 776 [l0, l1, l2, some (.int x)] (.int x :: st) sh M kc ks Q := x_iload_n (gcl_m d) (gopt (e := (.iload_n 3, 1, 0, 0, 0)) gt205 rfl) rfl rfl
set_option maxRecDepth 100000 in
theorem u205_776 : gR (gcl d) X 205 776 [l0, l1, l2, l3] st sh M kc ks Q = gR (gcl d) X 205 777 [l0, l1, l2, l3] (.int (nI 3) :: st) sh M kc ks Q := x_iconst (gcl_m d) (gopt (e := (.iconst 3, 1, 0, 0, 0)) gt205 rfl) (by decide) rfl
set_option maxRecDepth 100000 in
theorem u205_777 : gR (gcl d) X 205 777 [l0, l1, l2, l3] (.int y :: .int x :: st) sh M kc ks Q = gR (gcl d) X 205 778 [l0, l1, l2, l3] (.int (x + y) :: st) sh M kc ks Q := x_iadd (gcl_m d) (gopt (e := (.iadd, 1, 0, 0, 0)) gt205 rfl) rfl
set_option maxRecDepth 100000 in
theorem u205_778 : gR (gcl d) X 205 778 [l0, l1, l2, l3] (.int x :: .float fk :: st) sh M kc ks Q = (vp_in x (gro 205 X fk).1 ∧ gR (gcl d) X 205 779 [l0, l1, l2, l3] (.int ((gro 205 X fk).2 x.toNatClampNeg) :: st) sh M kc ks Q) := x_iaro (gcl_m d) (gopt (e := (.iaload, 1, 0, 0, 0)) gt205 rfl) rfl
set_option maxRecDepth 100000 in
theorem u205_779 : gR (gcl d) X 205 779 [some (.ref o), l1, l2, l3] st sh M kc ks Q = gR (gcl d) X 205 780 [some (.ref o), l1, l2, l3] (.ref o :: st) sh M kc ks Q := x_aload_n (gcl_m d) (gopt (e := (.aload_n 0, 1, 0, 0, 0)) gt205 rfl) rfl rfl
set_option maxRecDepth 100000 in
theorem u205_779f : gR (gcl d) X 205 779 [some (.float fk), l1, l2, l3] st sh M kc ks Q = gR (gcl d) X 205 780 [some (.float fk), l1, l2, l3] (.float fk :: st) sh M kc ks Q := x_aload_nf (gcl_m d) (gopt (e := (.aload_n 0, 1, 0, 0, 0)) gt205 rfl) rfl rfl
set_option maxRecDepth 100000 in
theorem u205_780 : gR (gcl d) X 205 780 [l0, l1, l2, some (.int x)] st sh M kc ks Q = gR (gcl d) X 205 781 [l0, l1, l2, some (.int x)] (.int x :: st) sh M kc ks Q := x_iload_n (gcl_m d) (gopt (e := (.iload_n 3, 1, 0, 0, 0)) gt205 rfl) rfl rfl
set_option maxRecDepth 100000 in
theorem u205_781 : gR (gcl d) X 205 781 [l0, l1, l2, l3] st sh M kc ks Q = gR (gcl d) X 205 782 [l0, l1, l2, l3] (.int (nI 4) :: st) sh M kc ks Q := x_iconst (gcl_m d) (gopt (e := (.iconst 4, 1, 0, 0, 0)) gt205 rfl) (by decide) rfl
set_option maxRecDepth 100000 in
theorem u205_782 : gR (gcl d) X 205 782 [l0, l1, l2, l3] (.int y :: .int x :: st) sh M kc ks Q = gR (gcl d) X 205 783 [l0, l1, l2, l3] (.int (x + y) :: st) sh M kc ks Q := x_iadd (gcl_m d) (gopt (e := (.iadd, 1, 0, 0, 0)) gt205 rfl) rfl
set_option maxRecDepth 100000 in
theorem u205_783 : gR (gcl d) X 205 783 [l0, l1, l2, l3] (.int x :: .float fk :: st) sh M kc ks Q = (vp_in x (gro 205 X fk).1 ∧ gR (gcl d) X 205 784 [l0, l1, l2, l3] (.int ((gro 205 X fk).2 x.toNatClampNeg) :: st) sh M kc ks Q) := x_iaro (gcl_m d) (gopt (e := (.iaload, 1, 0, 0, 0)) gt205 rfl) rfl
set_option maxRecDepth 100000 in
theorem u205_784 : gR (gcl d) X 205 784 [l0, l1, l2, l3] (v4 :: v3 :: v2 :: v1 :: .ref o :: st) sh M kc ks Q = ((gci sh o = some 6 ∧ st.length ≤ 4 ∧ gro1 205 kc ks 0 0) ∧ gcl d 94 [.ref o, v1, v2, v3, v4] sh M fun v sh2 M2 => gR (gcl d) X 205 787 [l0, l1, l2, l3] (v ++ st) sh2 M2 kc ks Q) := x_virtk (gcl_m d) (gopt (e := (.invokevirtual 94, 3, 94, 4, 0)) gt205 rfl) rfl rfl rfl rfl rfl
set_option maxRecDepth 100000 in
theorem u205_787 : gR (gcl d) X 205 787 [l0, l1, some (.ref o), l3] st sh M kc ks Q = gR (gcl d) X 205 788 [l0, l1, some (.ref o), l3] (.ref o :: st) sh M kc ks Q := x_aload_n (gcl_m d) (gopt (e := (.aload_n 2, 1, 0, 0, 0)) gt205 rfl) rfl rfl
set_option maxRecDepth 100000 in
theorem u205_787f : gR (gcl d) X 205 787 [l0, l1, some (.float fk), l3] st sh M kc ks Q = gR (gcl d) X 205 788 [l0, l1, some (.float fk), l3] (.float fk :: st) sh M kc ks Q := x_aload_nf (gcl_m d) (gopt (e := (.aload_n 2, 1, 0, 0, 0)) gt205 rfl) rfl rfl
set_option maxRecDepth 100000 in
theorem u205_788 : gR (gcl d) X 205 788 [some (.ref o), l1, l2, l3] st sh M kc ks Q = gR (gcl d) X 205 789 [some (.ref o), l1, l2, l3] (.ref o :: st) sh M kc ks Q := x_aload_n (gcl_m d) (gopt (e := (.aload_n 0, 1, 0, 0, 0)) gt205 rfl) rfl rfl
set_option maxRecDepth 100000 in
theorem u205_788f : gR (gcl d) X 205 788 [some (.float fk), l1, l2, l3] st sh M kc ks Q = gR (gcl d) X 205 789 [some (.float fk), l1, l2, l3] (.float fk :: st) sh M kc ks Q := x_aload_nf (gcl_m d) (gopt (e := (.aload_n 0, 1, 0, 0, 0)) gt205 rfl) rfl rfl
set_option maxRecDepth 100000 in
theorem u205_789 : gR (gcl d) X 205 789 [l0, l1, l2, some (.int x)] st sh M kc ks Q = gR (gcl d) X 205 790 [l0, l1, l2, some (.int x)] (.int x :: st) sh M kc ks Q := x_iload_n (gcl_m d) (gopt (e := (.iload_n 3, 1, 0, 0, 0)) gt205 rfl) rfl rfl
set_option maxRecDepth 100000 in
theorem u205_790 : gR (gcl d) X 205 790 [l0, l1, l2, l3] st sh M kc ks Q = gR (gcl d) X 205 791 [l0, l1, l2, l3] (.int (nI 1) :: st) sh M kc ks Q := x_iconst (gcl_m d) (gopt (e := (.iconst 1, 1, 0, 0, 0)) gt205 rfl) (by decide) rfl
set_option maxRecDepth 100000 in
theorem u205_791 : gR (gcl d) X 205 791 [l0, l1, l2, l3] (.int y :: .int x :: st) sh M kc ks Q = gR (gcl d) X 205 792 [l0, l1, l2, l3] (.int (x + y) :: st) sh M kc ks Q := x_iadd (gcl_m d) (gopt (e := (.iadd, 1, 0, 0, 0)) gt205 rfl) rfl
set_option maxRecDepth 100000 in
theorem u205_792 : gR (gcl d) X 205 792 [l0, l1, l2, l3] (.int x :: .float fk :: st) sh M kc ks Q = (vp_in x (gro 205 X fk).1 ∧ gR (gcl d) X 205 793 [l0, l1, l2, l3] (.int ((gro 205 X fk).2 x.toNatClampNeg) :: st) sh M kc ks Q) := x_iaro (gcl_m d) (gopt (e := (.iaload, 1, 0, 0, 0)) gt205 rfl) rfl
set_option maxRecDepth 100000 in
theorem u205_793 : gR (gcl d) X 205 793 [some (.ref o), l1, l2, l3] st sh M kc ks Q = gR (gcl d) X 205 794 [some (.ref o), l1, l2, l3] (.ref o :: st) sh M kc ks Q := x_aload_n (gcl_m d) (gopt (e := (.aload_n 0, 1, 0, 0, 0)) gt205 rfl) rfl rfl
set_option maxRecDepth 100000 in
theorem u205_793f : gR (gcl d) X 205 793 [some (.float fk), l1, l2, l3] st sh M kc ks Q = gR (gcl d) X 205 794 [some (.float fk), l1, l2, l3] (.float fk :: st) sh M kc ks Q := x_aload_nf (gcl_m d) (gopt (e := (.aload_n 0, 1, 0, 0, 0)) gt205 rfl) rfl rfl
set_option maxRecDepth 100000 in
theorem u205_794 : gR (gcl d) X 205 794 [l0, l1, l2, some (.int x)] st sh M kc ks Q = gR (gcl d) X 205 795 [l0, l1, l2, some (.int x)] (.int x :: st) sh M kc ks Q := x_iload_n (gcl_m d) (gopt (e := (.iload_n 3, 1, 0, 0, 0)) gt205 rfl) rfl rfl
set_option maxRecDepth 100000 in
theorem u205_795 : gR (gcl d) X 205 795 [l0, l1, l2, l3] st sh M kc ks Q = gR (gcl d) X 205 796 [l0, l1, l2, l3] (.int (nI 2) :: st) sh M kc ks Q := x_iconst (gcl_m d) (gopt (e := (.iconst 2, 1, 0, 0, 0)) gt205 rfl) (by decide) rfl
set_option maxRecDepth 100000 in
theorem u205_796 : gR (gcl d) X 205 796 [l0, l1, l2, l3] (.int y :: .int x :: st) sh M kc ks Q = gR (gcl d) X 205 797 [l0, l1, l2, l3] (.int (x + y) :: st) sh M kc ks Q := x_iadd (gcl_m d) (gopt (e := (.iadd, 1, 0, 0, 0)) gt205 rfl) rfl
set_option maxRecDepth 100000 in
theorem u205_797 : gR (gcl d) X 205 797 [l0, l1, l2, l3] (.int x :: .float fk :: st) sh M kc ks Q = (vp_in x (gro 205 X fk).1 ∧ gR (gcl d) X 205 798 [l0, l1, l2, l3] (.int ((gro 205 X fk).2 x.toNatClampNeg) :: st) sh M kc ks Q) := x_iaro (gcl_m d) (gopt (e := (.iaload, 1, 0, 0, 0)) gt205 rfl) rfl
set_option maxRecDepth 100000 in
theorem u205_798 : gR (gcl d) X 205 798 [some (.ref o), l1, l2, l3] st sh M kc ks Q = gR (gcl d) X 205 799 [some (.ref o), l1, l2, l3] (.ref o :: st) sh M kc ks Q := x_aload_n (gcl_m d) (gopt (e := (.aload_n 0, 1, 0, 0, 0)) gt205 rfl) rfl rfl
set_option maxRecDepth 100000 in
theorem u205_798f : gR (gcl d) X 205 798 [some (.float fk), l1, l2, l3] st sh M kc ks Q = gR (gcl d) X 205 799 [some (.float fk), l1, l2, l3] (.float fk :: st) sh M kc ks Q := x_aload_nf (gcl_m d) (gopt (e := (.aload_n 0, 1, 0, 0, 0)) gt205 rfl) rfl rfl
set_option maxRecDepth 100000 in
theorem u205_799 : gR (gcl d) X 205 799 [l0, l1, l2, some (.int x)] st sh M kc ks Q = gR (gcl d) X 205 800 [l0, l1, l2, some (.int x)] (.int x :: st) sh M kc ks Q := x_iload_n (gcl_m d) (gopt (e := (.iload_n 3, 1, 0, 0, 0)) gt205 rfl) rfl rfl
set_option maxRecDepth 100000 in
theorem u205_800 : gR (gcl d) X 205 800 [l0, l1, l2, l3] st sh M kc ks Q = gR (gcl d) X 205 801 [l0, l1, l2, l3] (.int (nI 3) :: st) sh M kc ks Q := x_iconst (gcl_m d) (gopt (e := (.iconst 3, 1, 0, 0, 0)) gt205 rfl) (by decide) rfl
set_option maxRecDepth 100000 in
theorem u205_801 : gR (gcl d) X 205 801 [l0, l1, l2, l3] (.int y :: .int x :: st) sh M kc ks Q = gR (gcl d) X 205 802 [l0, l1, l2, l3] (.int (x + y) :: st) sh M kc ks Q := x_iadd (gcl_m d) (gopt (e := (.iadd, 1, 0, 0, 0)) gt205 rfl) rfl
set_option maxRecDepth 100000 in
theorem u205_802 : gR (gcl d) X 205 802 [l0, l1, l2, l3] (.int x :: .float fk :: st) sh M kc ks Q = (vp_in x (gro 205 X fk).1 ∧ gR (gcl d) X 205 803 [l0, l1, l2, l3] (.int ((gro 205 X fk).2 x.toNatClampNeg) :: st) sh M kc ks Q) := x_iaro (gcl_m d) (gopt (e := (.iaload, 1, 0, 0, 0)) gt205 rfl) rfl
set_option maxRecDepth 100000 in
theorem u205_803 : gR (gcl d) X 205 803 [some (.ref o), l1, l2, l3] st sh M kc ks Q = gR (gcl d) X 205 804 [some (.ref o), l1, l2, l3] (.ref o :: st) sh M kc ks Q := x_aload_n (gcl_m d) (gopt (e := (.aload_n 0, 1, 0, 0, 0)) gt205 rfl) rfl rfl
set_option maxRecDepth 100000 in
theorem u205_803f : gR (gcl d) X 205 803 [some (.float fk), l1, l2, l3] st sh M kc ks Q = gR (gcl d) X 205 804 [some (.float fk), l1, l2, l3] (.float fk :: st) sh M kc ks Q := x_aload_nf (gcl_m d) (gopt (e := (.aload_n 0, 1, 0, 0, 0)) gt205 rfl) rfl rfl
set_option maxRecDepth 100000 in
theorem u205_804 : gR (gcl d) X 205 804 [l0, l1, l2, some (.int x)] st sh M kc ks Q = gR (gcl d) X 205 805 [l0, l1, l2, some (.int x)] (.int x :: st) sh M kc ks Q := x_iload_n (gcl_m d) (gopt (e := (.iload_n 3, 1, 0, 0, 0)) gt205 rfl) rfl rfl
set_option maxRecDepth 100000 in
theorem u205_805 : gR (gcl d) X 205 805 [l0, l1, l2, l3] st sh M kc ks Q = gR (gcl d) X 205 806 [l0, l1, l2, l3] (.int (nI 4) :: st) sh M kc ks Q := x_iconst (gcl_m d) (gopt (e := (.iconst 4, 1, 0, 0, 0)) gt205 rfl) (by decide) rfl
set_option maxRecDepth 100000 in
theorem u205_806 : gR (gcl d) X 205 806 [l0, l1, l2, l3] (.int y :: .int x :: st) sh M kc ks Q = gR (gcl d) X 205 807 [l0, l1, l2, l3] (.int (x + y) :: st) sh M kc ks Q := x_iadd (gcl_m d) (gopt (e := (.iadd, 1, 0, 0, 0)) gt205 rfl) rfl
set_option maxRecDepth 100000 in
theorem u205_807 : gR (gcl d) X 205 807 [l0, l1, l2, l3] (.int x :: .float fk :: st) sh M kc ks Q = (vp_in x (gro 205 X fk).1 ∧ gR (gcl d) X 205 808 [l0, l1, l2, l3] (.int ((gro 205 X fk).2 x.toNatClampNeg) :: st) sh M kc ks Q) := x_iaro (gcl_m d) (gopt (e := (.iaload, 1, 0, 0, 0)) gt205 rfl) rfl
set_option maxRecDepth 100000 in
theorem u205_808 : gR (gcl d) X 205 808 [l0, l1, l2, l3] (v4 :: v3 :: v2 :: v1 :: .ref o :: st) sh M kc ks Q = ((gci sh o = some 7 ∧ st.length ≤ 4 ∧ gro1 205 kc ks 0 0) ∧ gcl d 178 [.ref o, v1, v2, v3, v4] sh M fun v sh2 M2 => gR (gcl d) X 205 811 [l0, l1, l2, l3] (v ++ st) sh2 M2 kc ks Q) := x_virtk (gcl_m d) (gopt (e := (.invokevirtual 98, 3, 178, 4, 0)) gt205 rfl) rfl rfl rfl rfl rfl
set_option maxRecDepth 100000 in
theorem u205_811 : gR (gcl d) X 205 811 [l0, l1, l2, l3] (.int y :: .int x :: st) sh M kc ks Q = ((x = y → gR (gcl d) X 205 1222 [l0, l1, l2, l3] st sh M kc ks Q) ∧ (¬ x = y → gR (gcl d) X 205 814 [l0, l1, l2, l3] st sh M kc ks Q)) := x_icmp_eq (gcl_m d) (gopt (e := (.if_icmp .eq 411, 3, 1222, 0, 0)) gt205 rfl) rfl
set_option maxRecDepth 100000 in
theorem u205_814 : gR (gcl d) X 205 814 [l0, l1, l2, l3] st sh M kc ks Q = gR (gcl d) X 205 815 [l0, l1, l2, l3] (.int (nI 0) :: st) sh M kc ks Q := x_iconst (gcl_m d) (gopt (e := (.iconst 0, 1, 0, 0, 0)) gt205 rfl) (by decide) rfl
set_option maxRecDepth 100000 in
theorem u205_815 : gR (gcl d) X 205 815 [l0, l1, l2, l3] [.int (nI 1)] sh M kc ks Q = (gfin 205 kc ks ∧ Q [.int (nI 1)] sh M) := x_retk (gcl_m d) (gopt (e := (.ireturn, 1, 0, 0, 0)) gt205 rfl) (Or.inr ⟨rfl, Or.inr (by decide)⟩)
set_option maxRecDepth 100000 in
theorem u205_816 : gR (gcl d) X 205 816 [l0, some (.ref o), l2, l3] st sh M kc ks Q = gR (gcl d) X 205 817 [l0, some (.ref o), l2, l3] (.ref o :: st) sh M kc ks Q := x_aload_n (gcl_m d) (gopt (e := (.aload_n 1, 1, 0, 0, 0)) gt205 rfl) rfl rfl
set_option maxRecDepth 100000 in
theorem u205_816f : gR (gcl d) X 205 816 [l0, some (.float fk), l2, l3] st sh M kc ks Q = gR (gcl d) X 205 817 [l0, some (.float fk), l2, l3] (.float fk :: st) sh M kc ks Q := x_aload_nf (gcl_m d) (gopt (e := (.aload_n 1, 1, 0, 0, 0)) gt205 rfl) rfl rfl
set_option maxRecDepth 100000 in
theorem u205_817 : gR (gcl d) X 205 817 [some (.ref o), l1, l2, l3] st sh M kc ks Q = gR (gcl d) X 205 818 [some (.ref o), l1, l2, l3] (.ref o :: st) sh M kc ks Q := x_aload_n (gcl_m d) (gopt (e := (.aload_n 0, 1, 0, 0, 0)) gt205 rfl) rfl rfl
set_option maxRecDepth 100000 in
theorem u205_817f : gR (gcl d) X 205 817 [some (.float fk), l1, l2, l3] st sh M kc ks Q = gR (gcl d) X 205 818 [some (.float fk), l1, l2, l3] (.float fk :: st) sh M kc ks Q := x_aload_nf (gcl_m d) (gopt (e := (.aload_n 0, 1, 0, 0, 0)) gt205 rfl) rfl rfl
set_option maxRecDepth 100000 in
theorem u205_818 : gR (gcl d) X 205 818 [l0, l1, l2, some (.int x)] st sh M kc ks Q = gR (gcl d) X 205 819 [l0, l1, l2, some (.int x)] (.int x :: st) sh M kc ks Q := x_iload_n (gcl_m d) (gopt (e := (.iload_n 3, 1, 0, 0, 0)) gt205 rfl) rfl rfl
set_option maxRecDepth 100000 in
theorem u205_819 : gR (gcl d) X 205 819 [l0, l1, l2, l3] st sh M kc ks Q = gR (gcl d) X 205 820 [l0, l1, l2, l3] (.int (nI 1) :: st) sh M kc ks Q := x_iconst (gcl_m d) (gopt (e := (.iconst 1, 1, 0, 0, 0)) gt205 rfl) (by decide) rfl
set_option maxRecDepth 100000 in
theorem u205_820 : gR (gcl d) X 205 820 [l0, l1, l2, l3] (.int y :: .int x :: st) sh M kc ks Q = gR (gcl d) X 205 821 [l0, l1, l2, l3] (.int (x + y) :: st) sh M kc ks Q := x_iadd (gcl_m d) (gopt (e := (.iadd, 1, 0, 0, 0)) gt205 rfl) rfl
set_option maxRecDepth 100000 in
theorem u205_821 : gR (gcl d) X 205 821 [l0, l1, l2, l3] (.int x :: .float fk :: st) sh M kc ks Q = (vp_in x (gro 205 X fk).1 ∧ gR (gcl d) X 205 822 [l0, l1, l2, l3] (.int ((gro 205 X fk).2 x.toNatClampNeg) :: st) sh M kc ks Q) := x_iaro (gcl_m d) (gopt (e := (.iaload, 1, 0, 0, 0)) gt205 rfl) rfl
set_option maxRecDepth 100000 in
theorem u205_822 : gR (gcl d) X 205 822 [some (.ref o), l1, l2, l3] st sh M kc ks Q = gR (gcl d) X 205 823 [some (.ref o), l1, l2, l3] (.ref o :: st) sh M kc ks Q := x_aload_n (gcl_m d) (gopt (e := (.aload_n 0, 1, 0, 0, 0)) gt205 rfl) rfl rfl
set_option maxRecDepth 100000 in
theorem u205_822f : gR (gcl d) X 205 822 [some (.float fk), l1, l2, l3] st sh M kc ks Q = gR (gcl d) X 205 823 [some (.float fk), l1, l2, l3] (.float fk :: st) sh M kc ks Q := x_aload_nf (gcl_m d) (gopt (e := (.aload_n 0, 1, 0, 0, 0)) gt205 rfl) rfl rfl
set_option maxRecDepth 100000 in
theorem u205_823 : gR (gcl d) X 205 823 [l0, l1, l2, some (.int x)] st sh M kc ks Q = gR (gcl d) X 205 824 [l0, l1, l2, some (.int x)] (.int x :: st) sh M kc ks Q := x_iload_n (gcl_m d) (gopt (e := (.iload_n 3, 1, 0, 0, 0)) gt205 rfl) rfl rfl
set_option maxRecDepth 100000 in
theorem u205_824 : gR (gcl d) X 205 824 [l0, l1, l2, l3] st sh M kc ks Q = gR (gcl d) X 205 825 [l0, l1, l2, l3] (.int (nI 2) :: st) sh M kc ks Q := x_iconst (gcl_m d) (gopt (e := (.iconst 2, 1, 0, 0, 0)) gt205 rfl) (by decide) rfl
set_option maxRecDepth 100000 in
theorem u205_825 : gR (gcl d) X 205 825 [l0, l1, l2, l3] (.int y :: .int x :: st) sh M kc ks Q = gR (gcl d) X 205 826 [l0, l1, l2, l3] (.int (x + y) :: st) sh M kc ks Q := x_iadd (gcl_m d) (gopt (e := (.iadd, 1, 0, 0, 0)) gt205 rfl) rfl
set_option maxRecDepth 100000 in
theorem u205_826 : gR (gcl d) X 205 826 [l0, l1, l2, l3] (.int x :: .float fk :: st) sh M kc ks Q = (vp_in x (gro 205 X fk).1 ∧ gR (gcl d) X 205 827 [l0, l1, l2, l3] (.int ((gro 205 X fk).2 x.toNatClampNeg) :: st) sh M kc ks Q) := x_iaro (gcl_m d) (gopt (e := (.iaload, 1, 0, 0, 0)) gt205 rfl) rfl
set_option maxRecDepth 100000 in
theorem u205_827 : gR (gcl d) X 205 827 [l0, l1, l2, l3] (v2 :: v1 :: .ref o :: st) sh M kc ks Q = ((gci sh o = some 6 ∧ st.length ≤ 4 ∧ gro1 205 kc ks 0 0) ∧ gcl d 95 [.ref o, v1, v2] sh M fun v sh2 M2 => gR (gcl d) X 205 830 [l0, l1, l2, l3] (v ++ st) sh2 M2 kc ks Q) := x_virtk (gcl_m d) (gopt (e := (.invokevirtual 99, 3, 95, 2, 0)) gt205 rfl) rfl rfl rfl rfl rfl
set_option maxRecDepth 100000 in
theorem u205_830 : gR (gcl d) X 205 830 [l0, l1, some (.ref o), l3] st sh M kc ks Q = gR (gcl d) X 205 831 [l0, l1, some (.ref o), l3] (.ref o :: st) sh M kc ks Q := x_aload_n (gcl_m d) (gopt (e := (.aload_n 2, 1, 0, 0, 0)) gt205 rfl) rfl rfl
set_option maxRecDepth 100000 in
theorem u205_830f : gR (gcl d) X 205 830 [l0, l1, some (.float fk), l3] st sh M kc ks Q = gR (gcl d) X 205 831 [l0, l1, some (.float fk), l3] (.float fk :: st) sh M kc ks Q := x_aload_nf (gcl_m d) (gopt (e := (.aload_n 2, 1, 0, 0, 0)) gt205 rfl) rfl rfl
set_option maxRecDepth 100000 in
theorem u205_831 : gR (gcl d) X 205 831 [some (.ref o), l1, l2, l3] st sh M kc ks Q = gR (gcl d) X 205 832 [some (.ref o), l1, l2, l3] (.ref o :: st) sh M kc ks Q := x_aload_n (gcl_m d) (gopt (e := (.aload_n 0, 1, 0, 0, 0)) gt205 rfl) rfl rfl
set_option maxRecDepth 100000 in
theorem u205_831f : gR (gcl d) X 205 831 [some (.float fk), l1, l2, l3] st sh M kc ks Q = gR (gcl d) X 205 832 [some (.float fk), l1, l2, l3] (.float fk :: st) sh M kc ks Q := x_aload_nf (gcl_m d) (gopt (e := (.aload_n 0, 1, 0, 0, 0)) gt205 rfl) rfl rfl
set_option maxRecDepth 100000 in
theorem u205_832 : gR (gcl d) X 205 832 [l0, l1, l2, some (.int x)] st sh M kc ks Q = gR (gcl d) X 205 833 [l0, l1, l2, some (.int x)] (.int x :: st) sh M kc ks Q := x_iload_n (gcl_m d) (gopt (e := (.iload_n 3, 1, 0, 0, 0)) gt205 rfl) rfl rfl
set_option maxRecDepth 100000 in
theorem u205_833 : gR (gcl d) X 205 833 [l0, l1, l2, l3] st sh M kc ks Q = gR (gcl d) X 205 834 [l0, l1, l2, l3] (.int (nI 1) :: st) sh M kc ks Q := x_iconst (gcl_m d) (gopt (e := (.iconst 1, 1, 0, 0, 0)) gt205 rfl) (by decide) rfl
set_option maxRecDepth 100000 in
theorem u205_834 : gR (gcl d) X 205 834 [l0, l1, l2, l3] (.int y :: .int x :: st) sh M kc ks Q = gR (gcl d) X 205 835 [l0, l1, l2, l3] (.int (x + y) :: st) sh M kc ks Q := x_iadd (gcl_m d) (gopt (e := (.iadd, 1, 0, 0, 0)) gt205 rfl) rfl
set_option maxRecDepth 100000 in
theorem u205_835 : gR (gcl d) X 205 835 [l0, l1, l2, l3] (.int x :: .float fk :: st) sh M kc ks Q = (vp_in x (gro 205 X fk).1 ∧ gR (gcl d) X 205 836 [l0, l1, l2, l3] (.int ((gro 205 X fk).2 x.toNatClampNeg) :: st) sh M kc ks Q) := x_iaro (gcl_m d) (gopt (e := (.iaload, 1, 0, 0, 0)) gt205 rfl) rfl
set_option maxRecDepth 100000 in
theorem u205_836 : gR (gcl d) X 205 836 [some (.ref o), l1, l2, l3] st sh M kc ks Q = gR (gcl d) X 205 837 [some (.ref o), l1, l2, l3] (.ref o :: st) sh M kc ks Q := x_aload_n (gcl_m d) (gopt (e := (.aload_n 0, 1, 0, 0, 0)) gt205 rfl) rfl rfl
set_option maxRecDepth 100000 in
theorem u205_836f : gR (gcl d) X 205 836 [some (.float fk), l1, l2, l3] st sh M kc ks Q = gR (gcl d) X 205 837 [some (.float fk), l1, l2, l3] (.float fk :: st) sh M kc ks Q := x_aload_nf (gcl_m d) (gopt (e := (.aload_n 0, 1, 0, 0, 0)) gt205 rfl) rfl rfl
set_option maxRecDepth 100000 in
theorem u205_837 : gR (gcl d) X 205 837 [l0, l1, l2, some (.int x)] st sh M kc ks Q = gR (gcl d) X 205 838 [l0, l1, l2, some (.int x)] (.int x :: st) sh M kc ks Q := x_iload_n (gcl_m d) (gopt (e := (.iload_n 3, 1, 0, 0, 0)) gt205 rfl) rfl rfl
set_option maxRecDepth 100000 in
theorem u205_838 : gR (gcl d) X 205 838 [l0, l1, l2, l3] st sh M kc ks Q = gR (gcl d) X 205 839 [l0, l1, l2, l3] (.int (nI 2) :: st) sh M kc ks Q := x_iconst (gcl_m d) (gopt (e := (.iconst 2, 1, 0, 0, 0)) gt205 rfl) (by decide) rfl
set_option maxRecDepth 100000 in
theorem u205_839 : gR (gcl d) X 205 839 [l0, l1, l2, l3] (.int y :: .int x :: st) sh M kc ks Q = gR (gcl d) X 205 840 [l0, l1, l2, l3] (.int (x + y) :: st) sh M kc ks Q := x_iadd (gcl_m d) (gopt (e := (.iadd, 1, 0, 0, 0)) gt205 rfl) rfl
set_option maxRecDepth 100000 in
theorem u205_840 : gR (gcl d) X 205 840 [l0, l1, l2, l3] (.int x :: .float fk :: st) sh M kc ks Q = (vp_in x (gro 205 X fk).1 ∧ gR (gcl d) X 205 841 [l0, l1, l2, l3] (.int ((gro 205 X fk).2 x.toNatClampNeg) :: st) sh M kc ks Q) := x_iaro (gcl_m d) (gopt (e := (.iaload, 1, 0, 0, 0)) gt205 rfl) rfl
set_option maxRecDepth 100000 in
theorem u205_841 : gR (gcl d) X 205 841 [l0, l1, l2, l3] (v2 :: v1 :: .ref o :: st) sh M kc ks Q = ((gci sh o = some 7 ∧ st.length ≤ 4 ∧ gro1 205 kc ks 0 0) ∧ gcl d 180 [.ref o, v1, v2] sh M fun v sh2 M2 => gR (gcl d) X 205 844 [l0, l1, l2, l3] (v ++ st) sh2 M2 kc ks Q) := x_virtk (gcl_m d) (gopt (e := (.invokevirtual 102, 3, 180, 2, 0)) gt205 rfl) rfl rfl rfl rfl rfl
set_option maxRecDepth 100000 in
theorem u205_844 : gR (gcl d) X 205 844 [l0, l1, l2, l3] (.int y :: .int x :: st) sh M kc ks Q = ((x = y → gR (gcl d) X 205 1222 [l0, l1, l2, l3] st sh M kc ks Q) ∧ (¬ x = y → gR (gcl d) X 205 847 [l0, l1, l2, l3] st sh M kc ks Q)) := x_icmp_eq (gcl_m d) (gopt (e := (.if_icmp .eq 378, 3, 1222, 0, 0)) gt205 rfl) rfl
set_option maxRecDepth 100000 in
theorem u205_847 : gR (gcl d) X 205 847 [l0, l1, l2, l3] st sh M kc ks Q = gR (gcl d) X 205 848 [l0, l1, l2, l3] (.int (nI 0) :: st) sh M kc ks Q := x_iconst (gcl_m d) (gopt (e := (.iconst 0, 1, 0, 0, 0)) gt205 rfl) (by decide) rfl
set_option maxRecDepth 100000 in
theorem u205_848 : gR (gcl d) X 205 848 [l0, l1, l2, l3] [.int (nI 1)] sh M kc ks Q = (gfin 205 kc ks ∧ Q [.int (nI 1)] sh M) := x_retk (gcl_m d) (gopt (e := (.ireturn, 1, 0, 0, 0)) gt205 rfl) (Or.inr ⟨rfl, Or.inr (by decide)⟩)
set_option maxRecDepth 100000 in
theorem u205_849 : gR (gcl d) X 205 849 [l0, some (.ref o), l2, l3] st sh M kc ks Q = gR (gcl d) X 205 850 [l0, some (.ref o), l2, l3] (.ref o :: st) sh M kc ks Q := x_aload_n (gcl_m d) (gopt (e := (.aload_n 1, 1, 0, 0, 0)) gt205 rfl) rfl rfl
set_option maxRecDepth 100000 in
theorem u205_849f : gR (gcl d) X 205 849 [l0, some (.float fk), l2, l3] st sh M kc ks Q = gR (gcl d) X 205 850 [l0, some (.float fk), l2, l3] (.float fk :: st) sh M kc ks Q := x_aload_nf (gcl_m d) (gopt (e := (.aload_n 1, 1, 0, 0, 0)) gt205 rfl) rfl rfl
set_option maxRecDepth 100000 in
theorem u205_850 : gR (gcl d) X 205 850 [some (.ref o), l1, l2, l3] st sh M kc ks Q = gR (gcl d) X 205 851 [some (.ref o), l1, l2, l3] (.ref o :: st) sh M kc ks Q := x_aload_n (gcl_m d) (gopt (e := (.aload_n 0, 1, 0, 0, 0)) gt205 rfl) rfl rfl
set_option maxRecDepth 100000 in
theorem u205_850f : gR (gcl d) X 205 850 [some (.float fk), l1, l2, l3] st sh M kc ks Q = gR (gcl d) X 205 851 [some (.float fk), l1, l2, l3] (.float fk :: st) sh M kc ks Q := x_aload_nf (gcl_m d) (gopt (e := (.aload_n 0, 1, 0, 0, 0)) gt205 rfl) rfl rfl
set_option maxRecDepth 100000 in
theorem u205_851 : gR (gcl d) X 205 851 [l0, l1, l2, some (.int x)] st sh M kc ks Q = gR (gcl d) X 205 852 [l0, l1, l2, some (.int x)] (.int x :: st) sh M kc ks Q := x_iload_n (gcl_m d) (gopt (e := (.iload_n 3, 1, 0, 0, 0)) gt205 rfl) rfl rfl
set_option maxRecDepth 100000 in
theorem u205_852 : gR (gcl d) X 205 852 [l0, l1, l2, l3] st sh M kc ks Q = gR (gcl d) X 205 853 [l0, l1, l2, l3] (.int (nI 1) :: st) sh M kc ks Q := x_iconst (gcl_m d) (gopt (e := (.iconst 1, 1, 0, 0, 0)) gt205 rfl) (by decide) rfl
set_option maxRecDepth 100000 in
theorem u205_853 : gR (gcl d) X 205 853 [l0, l1, l2, l3] (.int y :: .int x :: st) sh M kc ks Q = gR (gcl d) X 205 854 [l0, l1, l2, l3] (.int (x + y) :: st) sh M kc ks Q := x_iadd (gcl_m d) (gopt (e := (.iadd, 1, 0, 0, 0)) gt205 rfl) rfl
set_option maxRecDepth 100000 in
theorem u205_854 : gR (gcl d) X 205 854 [l0, l1, l2, l3] (.int x :: .float fk :: st) sh M kc ks Q = (vp_in x (gro 205 X fk).1 ∧ gR (gcl d) X 205 855 [l0, l1, l2, l3] (.int ((gro 205 X fk).2 x.toNatClampNeg) :: st) sh M kc ks Q) := x_iaro (gcl_m d) (gopt (e := (.iaload, 1, 0, 0, 0)) gt205 rfl) rfl
set_option maxRecDepth 100000 in
theorem u205_855 : gR (gcl d) X 205 855 [some (.ref o), l1, l2, l3] st sh M kc ks Q = gR (gcl d) X 205 856 [some (.ref o), l1, l2, l3] (.ref o :: st) sh M kc ks Q := x_aload_n (gcl_m d) (gopt (e := (.aload_n 0, 1, 0, 0, 0)) gt205 rfl) rfl rfl
set_option maxRecDepth 100000 in
theorem u205_855f : gR (gcl d) X 205 855 [some (.float fk), l1, l2, l3] st sh M kc ks Q = gR (gcl d) X 205 856 [some (.float fk), l1, l2, l3] (.float fk :: st) sh M kc ks Q := x_aload_nf (gcl_m d) (gopt (e := (.aload_n 0, 1, 0, 0, 0)) gt205 rfl) rfl rfl
set_option maxRecDepth 100000 in
theorem u205_856 : gR (gcl d) X 205 856 [l0, l1, l2, some (.int x)] st sh M kc ks Q = gR (gcl d) X 205 857 [l0, l1, l2, some (.int x)] (.int x :: st) sh M kc ks Q := x_iload_n (gcl_m d) (gopt (e := (.iload_n 3, 1, 0, 0, 0)) gt205 rfl) rfl rfl
set_option maxRecDepth 100000 in
theorem u205_857 : gR (gcl d) X 205 857 [l0, l1, l2, l3] st sh M kc ks Q = gR (gcl d) X 205 858 [l0, l1, l2, l3] (.int (nI 2) :: st) sh M kc ks Q := x_iconst (gcl_m d) (gopt (e := (.iconst 2, 1, 0, 0, 0)) gt205 rfl) (by decide) rfl
set_option maxRecDepth 100000 in
theorem u205_858 : gR (gcl d) X 205 858 [l0, l1, l2, l3] (.int y :: .int x :: st) sh M kc ks Q = gR (gcl d) X 205 859 [l0, l1, l2, l3] (.int (x + y) :: st) sh M kc ks Q := x_iadd (gcl_m d) (gopt (e := (.iadd, 1, 0, 0, 0)) gt205 rfl) rfl
set_option maxRecDepth 100000 in
theorem u205_859 : gR (gcl d) X 205 859 [l0, l1, l2, l3] (.int x :: .float fk :: st) sh M kc ks Q = (vp_in x (gro 205 X fk).1 ∧ gR (gcl d) X 205 860 [l0, l1, l2, l3] (.int ((gro 205 X fk).2 x.toNatClampNeg) :: st) sh M kc ks Q) := x_iaro (gcl_m d) (gopt (e := (.iaload, 1, 0, 0, 0)) gt205 rfl) rfl
set_option maxRecDepth 100000 in
theorem u205_860 : gR (gcl d) X 205 860 [some (.ref o), l1, l2, l3] st sh M kc ks Q = gR (gcl d) X 205 861 [some (.ref o), l1, l2, l3] (.ref o :: st) sh M kc ks Q := x_aload_n (gcl_m d) (gopt (e := (.aload_n 0, 1, 0, 0, 0)) gt205 rfl) rfl rfl
set_option maxRecDepth 100000 in
theorem u205_860f : gR (gcl d) X 205 860 [some (.float fk), l1, l2, l3] st sh M kc ks Q = gR (gcl d) X 205 861 [some (.float fk), l1, l2, l3] (.float fk :: st) sh M kc ks Q := x_aload_nf (gcl_m d) (gopt (e := (.aload_n 0, 1, 0, 0, 0)) gt205 rfl) rfl rfl
set_option maxRecDepth 100000 in
theorem u205_861 : gR (gcl d) X 205 861 [l0, l1, l2, some (.int x)] st sh M kc ks Q = gR (gcl d) X 205 862 [l0, l1, l2, some (.int x)] (.int x :: st) sh M kc ks Q := x_iload_n (gcl_m d) (gopt (e := (.iload_n 3, 1, 0, 0, 0)) gt205 rfl) rfl rfl
set_option maxRecDepth 100000 in
theorem u205_862 : gR (gcl d) X 205 862 [l0, l1, l2, l3] st sh M kc ks Q = gR (gcl d) X 205 863 [l0, l1, l2, l3] (.int (nI 3) :: st) sh M kc ks Q := x_iconst (gcl_m d) (gopt (e := (.iconst 3, 1, 0, 0, 0)) gt205 rfl) (by decide) rfl
set_option maxRecDepth 100000 in
theorem u205_863 : gR (gcl d) X 205 863 [l0, l1, l2, l3] (.int y :: .int x :: st) sh M kc ks Q = gR (gcl d) X 205 864 [l0, l1, l2, l3] (.int (x + y) :: st) sh M kc ks Q := x_iadd (gcl_m d) (gopt (e := (.iadd, 1, 0, 0, 0)) gt205 rfl) rfl
set_option maxRecDepth 100000 in
theorem u205_864 : gR (gcl d) X 205 864 [l0, l1, l2, l3] (.int x :: .float fk :: st) sh M kc ks Q = (vp_in x (gro 205 X fk).1 ∧ gR (gcl d) X 205 865 [l0, l1, l2, l3] (.int ((gro 205 X fk).2 x.toNatClampNeg) :: st) sh M kc ks Q) := x_iaro (gcl_m d) (gopt (e := (.iaload, 1, 0, 0, 0)) gt205 rfl) rfl
set_option maxRecDepth 100000 in
theorem u205_865 : gR (gcl d) X 205 865 [some (.ref o), l1, l2, l3] st sh M kc ks Q = gR (gcl d) X 205 866 [some (.ref o), l1, l2, l3] (.ref o :: st) sh M kc ks Q := x_aload_n (gcl_m d) (gopt (e := (.aload_n 0, 1, 0, 0, 0)) gt205 rfl) rfl rfl
set_option maxRecDepth 100000 in
theorem u205_865f : gR (gcl d) X 205 865 [some (.float fk), l1, l2, l3] st sh M kc ks Q = gR (gcl d) X 205 866 [some (.float fk), l1, l2, l3] (.float fk :: st) sh M kc ks Q := x_aload_nf (gcl_m d) (gopt (e := (.aload_n 0, 1, 0, 0, 0)) gt205 rfl) rfl rfl
set_option maxRecDepth 100000 in
theorem u205_866 : gR (gcl d) X 205 866 [l0, l1, l2, some (.int x)] st sh M kc ks Q = gR (gcl d) X 205 867 [l0, l1, l2, some (.int x)] (.int x :: st) sh M kc ks Q := x_iload_n (gcl_m d) (gopt (e := (.iload_n 3, 1, 0, 0, 0)) gt205 rfl) rfl rfl
set_option maxRecDepth 100000 in
theorem u205_867 : gR (gcl d) X 205 867 [l0, l1, l2, l3] st sh M kc ks Q = gR (gcl d) X 205 868 [l0, l1, l2, l3] (.int (nI 4) :: st) sh M kc ks Q := x_iconst (gcl_m d) (gopt (e := (.iconst 4, 1, 0, 0, 0)) gt205 rfl) (by decide) rfl
set_option maxRecDepth 100000 in
theorem u205_868 : gR (gcl d) X 205 868 [l0, l1, l2, l3] (.int y :: .int x :: st) sh M kc ks Q = gR (gcl d) X 205 869 [l0, l1, l2, l3] (.int (x + y) :: st) sh M kc ks Q := x_iadd (gcl_m d) (gopt (e := (.iadd, 1, 0, 0, 0)) gt205 rfl) rfl
set_option maxRecDepth 100000 in
theorem u205_869 : gR (gcl d) X 205 869 [l0, l1, l2, l3] (.int x :: .float fk :: st) sh M kc ks Q = (vp_in x (gro 205 X fk).1 ∧ gR (gcl d) X 205 870 [l0, l1, l2, l3] (.int ((gro 205 X fk).2 x.toNatClampNeg) :: st) sh M kc ks Q) := x_iaro (gcl_m d) (gopt (e := (.iaload, 1, 0, 0, 0)) gt205 rfl) rfl
set_option maxRecDepth 100000 in
theorem u205_870 : gR (gcl d) X 205 870 [l0, l1, l2, l3] (v4 :: v3 :: v2 :: v1 :: .ref o :: st) sh M kc ks Q = ((gci sh o = some 6 ∧ st.length ≤ 4 ∧ gro1 205 kc ks 0 0) ∧ gcl d 96 [.ref o, v1, v2, v3, v4] sh M fun v sh2 M2 => gR (gcl d) X 205 873 [l0, l1, l2, l3] (v ++ st) sh2 M2 kc ks Q) := x_virtk (gcl_m d) (gopt (e := (.invokevirtual 103, 3, 96, 4, 0)) gt205 rfl) rfl rfl rfl rfl rfl
set_option maxRecDepth 100000 in
theorem u205_873 : gR (gcl d) X 205 873 [l0, l1, some (.ref o), l3] st sh M kc ks Q = gR (gcl d) X 205 874 [l0, l1, some (.ref o), l3] (.ref o :: st) sh M kc ks Q := x_aload_n (gcl_m d) (gopt (e := (.aload_n 2, 1, 0, 0, 0)) gt205 rfl) rfl rfl
set_option maxRecDepth 100000 in
theorem u205_873f : gR (gcl d) X 205 873 [l0, l1, some (.float fk), l3] st sh M kc ks Q = gR (gcl d) X 205 874 [l0, l1, some (.float fk), l3] (.float fk :: st) sh M kc ks Q := x_aload_nf (gcl_m d) (gopt (e := (.aload_n 2, 1, 0, 0, 0)) gt205 rfl) rfl rfl
set_option maxRecDepth 100000 in
theorem u205_874 : gR (gcl d) X 205 874 [some (.ref o), l1, l2, l3] st sh M kc ks Q = gR (gcl d) X 205 875 [some (.ref o), l1, l2, l3] (.ref o :: st) sh M kc ks Q := x_aload_n (gcl_m d) (gopt (e := (.aload_n 0, 1, 0, 0, 0)) gt205 rfl) rfl rfl
set_option maxRecDepth 100000 in
theorem u205_874f : gR (gcl d) X 205 874 [some (.float fk), l1, l2, l3] st sh M kc ks Q = gR (gcl d) X 205 875 [some (.float fk), l1, l2, l3] (.float fk :: st) sh M kc ks Q := x_aload_nf (gcl_m d) (gopt (e := (.aload_n 0, 1, 0, 0, 0)) gt205 rfl) rfl rfl
set_option maxRecDepth 100000 in
theorem u205_875 : gR (gcl d) X 205 875 [l0, l1, l2, some (.int x)] st sh M kc ks Q = gR (gcl d) X 205 876 [l0, l1, l2, some (.int x)] (.int x :: st) sh M kc ks Q := x_iload_n (gcl_m d) (gopt (e := (.iload_n 3, 1, 0, 0, 0)) gt205 rfl) rfl rfl
set_option maxRecDepth 100000 in
theorem u205_876 : gR (gcl d) X 205 876 [l0, l1, l2, l3] st sh M kc ks Q = gR (gcl d) X 205 877 [l0, l1, l2, l3] (.int (nI 1) :: st) sh M kc ks Q := x_iconst (gcl_m d) (gopt (e := (.iconst 1, 1, 0, 0, 0)) gt205 rfl) (by decide) rfl
set_option maxRecDepth 100000 in
theorem u205_877 : gR (gcl d) X 205 877 [l0, l1, l2, l3] (.int y :: .int x :: st) sh M kc ks Q = gR (gcl d) X 205 878 [l0, l1, l2, l3] (.int (x + y) :: st) sh M kc ks Q := x_iadd (gcl_m d) (gopt (e := (.iadd, 1, 0, 0, 0)) gt205 rfl) rfl
set_option maxRecDepth 100000 in
theorem u205_878 : gR (gcl d) X 205 878 [l0, l1, l2, l3] (.int x :: .float fk :: st) sh M kc ks Q = (vp_in x (gro 205 X fk).1 ∧ gR (gcl d) X 205 879 [l0, l1, l2, l3] (.int ((gro 205 X fk).2 x.toNatClampNeg) :: st) sh M kc ks Q) := x_iaro (gcl_m d) (gopt (e := (.iaload, 1, 0, 0, 0)) gt205 rfl) rfl
set_option maxRecDepth 100000 in
theorem u205_879 : gR (gcl d) X 205 879 [some (.ref o), l1, l2, l3] st sh M kc ks Q = gR (gcl d) X 205 880 [some (.ref o), l1, l2, l3] (.ref o :: st) sh M kc ks Q := x_aload_n (gcl_m d) (gopt (e := (.aload_n 0, 1, 0, 0, 0)) gt205 rfl) rfl rfl
set_option maxRecDepth 100000 in
theorem u205_879f : gR (gcl d) X 205 879 [some (.float fk), l1, l2, l3] st sh M kc ks Q = gR (gcl d) X 205 880 [some (.float fk), l1, l2, l3] (.float fk :: st) sh M kc ks Q := x_aload_nf (gcl_m d) (gopt (e := (.aload_n 0, 1, 0, 0, 0)) gt205 rfl) rfl rfl
set_option maxRecDepth 100000 in
theorem u205_880 : gR (gcl d) X 205 880 [l0, l1, l2, some (.int x)] st sh M kc ks Q = gR (gcl d) X 205 881 [l0, l1, l2, some (.int x)] (.int x :: st) sh M kc ks Q := x_iload_n (gcl_m d) (gopt (e := (.iload_n 3, 1, 0, 0, 0)) gt205 rfl) rfl rfl
set_option maxRecDepth 100000 in
theorem u205_881 : gR (gcl d) X 205 881 [l0, l1, l2, l3] st sh M kc ks Q = gR (gcl d) X 205 882 [l0, l1, l2, l3] (.int (nI 2) :: st) sh M kc ks Q := x_iconst (gcl_m d) (gopt (e := (.iconst 2, 1, 0, 0, 0)) gt205 rfl) (by decide) rfl
set_option maxRecDepth 100000 in
theorem u205_882 : gR (gcl d) X 205 882 [l0, l1, l2, l3] (.int y :: .int x :: st) sh M kc ks Q = gR (gcl d) X 205 883 [l0, l1, l2, l3] (.int (x + y) :: st) sh M kc ks Q := x_iadd (gcl_m d) (gopt (e := (.iadd, 1, 0, 0, 0)) gt205 rfl) rfl
set_option maxRecDepth 100000 in
theorem u205_883 : gR (gcl d) X 205 883 [l0, l1, l2, l3] (.int x :: .float fk :: st) sh M kc ks Q = (vp_in x (gro 205 X fk).1 ∧ gR (gcl d) X 205 884 [l0, l1, l2, l3] (.int ((gro 205 X fk).2 x.toNatClampNeg) :: st) sh M kc ks Q) := x_iaro (gcl_m d) (gopt (e := (.iaload, 1, 0, 0, 0)) gt205 rfl) rfl
set_option maxRecDepth 100000 in
theorem u205_884 : gR (gcl d) X 205 884 [some (.ref o), l1, l2, l3] st sh M kc ks Q = gR (gcl d) X 205 885 [some (.ref o), l1, l2, l3] (.ref o :: st) sh M kc ks Q := x_aload_n (gcl_m d) (gopt (e := (.aload_n 0, 1, 0, 0, 0)) gt205 rfl) rfl rfl
set_option maxRecDepth 100000 in
theorem u205_884f : gR (gcl d) X 205 884 [some (.float fk), l1, l2, l3] st sh M kc ks Q = gR (gcl d) X 205 885 [some (.float fk), l1, l2, l3] (.float fk :: st) sh M kc ks Q := x_aload_nf (gcl_m d) (gopt (e := (.aload_n 0, 1, 0, 0, 0)) gt205 rfl) rfl rfl
set_option maxRecDepth 100000 in
theorem u205_885 : gR (gcl d) X 205 885 [l0, l1, l2, some (.int x)] st sh M kc ks Q = gR (gcl d) X 205 886 [l0, l1, l2, some (.int x)] (.int x :: st) sh M kc ks Q := x_iload_n (gcl_m d) (gopt (e := (.iload_n 3, 1, 0, 0, 0)) gt205 rfl) rfl rfl
set_option maxRecDepth 100000 in
theorem u205_886 : gR (gcl d) X 205 886 [l0, l1, l2, l3] st sh M kc ks Q = gR (gcl d) X 205 887 [l0, l1, l2, l3] (.int (nI 3) :: st) sh M kc ks Q := x_iconst (gcl_m d) (gopt (e := (.iconst 3, 1, 0, 0, 0)) gt205 rfl) (by decide) rfl
set_option maxRecDepth 100000 in
theorem u205_887 : gR (gcl d) X 205 887 [l0, l1, l2, l3] (.int y :: .int x :: st) sh M kc ks Q = gR (gcl d) X 205 888 [l0, l1, l2, l3] (.int (x + y) :: st) sh M kc ks Q := x_iadd (gcl_m d) (gopt (e := (.iadd, 1, 0, 0, 0)) gt205 rfl) rfl
set_option maxRecDepth 100000 in
theorem u205_888 : gR (gcl d) X 205 888 [l0, l1, l2, l3] (.int x :: .float fk :: st) sh M kc ks Q = (vp_in x (gro 205 X fk).1 ∧ gR (gcl d) X 205 889 [l0, l1, l2, l3] (.int ((gro 205 X fk).2 x.toNatClampNeg) :: st) sh M kc ks Q) := x_iaro (gcl_m d) (gopt (e := (.iaload, 1, 0, 0, 0)) gt205 rfl) rfl
set_option maxRecDepth 100000 in
theorem u205_889 : gR (gcl d) X 205 889 [some (.ref o), l1, l2, l3] st sh M kc ks Q = gR (gcl d) X 205 890 [some (.ref o), l1, l2, l3] (.ref o :: st) sh M kc ks Q := x_aload_n (gcl_m d) (gopt (e := (.aload_n 0, 1, 0, 0, 0)) gt205 rfl) rfl rfl
set_option maxRecDepth 100000 in
theorem u205_889f : gR (gcl d) X 205 889 [some (.float fk), l1, l2, l3] st sh M kc ks Q = gR (gcl d) X 205 890 [some (.float fk), l1, l2, l3] (.float fk :: st) sh M kc ks Q := x_aload_nf (gcl_m d) (gopt (e := (.aload_n 0, 1, 0, 0, 0)) gt205 rfl) rfl rfl
set_option maxRecDepth 100000 in
theorem u205_890 : gR (gcl d) X 205 890 [l0, l1, l2, some (.int x)] st sh M kc ks Q = gR (gcl d) X 205 891 [l0, l1, l2, some (.int x)] (.int x :: st) sh M kc ks Q := x_iload_n (gcl_m d) (gopt (e := (.iload_n 3, 1, 0, 0, 0)) gt205 rfl) rfl rfl
set_option maxRecDepth 100000 in
theorem u205_891 : gR (gcl d) X 205 891 [l0, l1, l2, l3] st sh M kc ks Q = gR (gcl d) X 205 892 [l0, l1, l2, l3] (.int (nI 4) :: st) sh M kc ks Q := x_iconst (gcl_m d) (gopt (e := (.iconst 4, 1, 0, 0, 0)) gt205 rfl) (by decide) rfl
set_option maxRecDepth 100000 in
theorem u205_892 : gR (gcl d) X 205 892 [l0, l1, l2, l3] (.int y :: .int x :: st) sh M kc ks Q = gR (gcl d) X 205 893 [l0, l1, l2, l3] (.int (x + y) :: st) sh M kc ks Q := x_iadd (gcl_m d) (gopt (e := (.iadd, 1, 0, 0, 0)) gt205 rfl) rfl
set_option maxRecDepth 100000 in
theorem u205_893 : gR (gcl d) X 205 893 [l0, l1, l2, l3] (.int x :: .float fk :: st) sh M kc ks Q = (vp_in x (gro 205 X fk).1 ∧ gR (gcl d) X 205 894 [l0, l1, l2, l3] (.int ((gro 205 X fk).2 x.toNatClampNeg) :: st) sh M kc ks Q) := x_iaro (gcl_m d) (gopt (e := (.iaload, 1, 0, 0, 0)) gt205 rfl) rfl
set_option maxRecDepth 100000 in
theorem u205_894 : gR (gcl d) X 205 894 [l0, l1, l2, l3] (v4 :: v3 :: v2 :: v1 :: .ref o :: st) sh M kc ks Q = ((gci sh o = some 7 ∧ st.length ≤ 4 ∧ gro1 205 kc ks 0 0) ∧ gcl d 181 [.ref o, v1, v2, v3, v4] sh M fun v sh2 M2 => gR (gcl d) X 205 897 [l0, l1, l2, l3] (v ++ st) sh2 M2 kc ks Q) := x_virtk (gcl_m d) (gopt (e := (.invokevirtual 106, 3, 181, 4, 0)) gt205 rfl) rfl rfl rfl rfl rfl
set_option maxRecDepth 100000 in
theorem u205_897 : gR (gcl d) X 205 897 [l0, l1, l2, l3] (.int y :: .int x :: st) sh M kc ks Q = ((x = y → gR (gcl d) X 205 1222 [l0, l1, l2, l3] st sh M kc ks Q) ∧ (¬ x = y → gR (gcl d) X 205 900 [l0, l1, l2, l3] st sh M kc ks Q)) := x_icmp_eq (gcl_m d) (gopt (e := (.if_icmp .eq 325, 3, 1222, 0, 0)) gt205 rfl) rfl
set_option maxRecDepth 100000 in
theorem u205_900 : gR (gcl d) X 205 900 [l0, l1, l2, l3] st sh M kc ks Q = gR (gcl d) X 205 901 [l0, l1, l2, l3] (.int (nI 0) :: st) sh M kc ks Q := x_iconst (gcl_m d) (gopt (e := (.iconst 0, 1, 0, 0, 0)) gt205 rfl) (by decide) rfl
set_option maxRecDepth 100000 in
theorem u205_901 : gR (gcl d) X 205 901 [l0, l1, l2, l3] [.int (nI 1)] sh M kc ks Q = (gfin 205 kc ks ∧ Q [.int (nI 1)] sh M) := x_retk (gcl_m d) (gopt (e := (.ireturn, 1, 0, 0, 0)) gt205 rfl) (Or.inr ⟨rfl, Or.inr (by decide)⟩)
set_option maxRecDepth 100000 in
theorem u205_902 : gR (gcl d) X 205 902 [l0, some (.ref o), l2, l3] st sh M kc ks Q = gR (gcl d) X 205 903 [l0, some (.ref o), l2, l3] (.ref o :: st) sh M kc ks Q := x_aload_n (gcl_m d) (gopt (e := (.aload_n 1, 1, 0, 0, 0)) gt205 rfl) rfl rfl
set_option maxRecDepth 100000 in
theorem u205_902f : gR (gcl d) X 205 902 [l0, some (.float fk), l2, l3] st sh M kc ks Q = gR (gcl d) X 205 903 [l0, some (.float fk), l2, l3] (.float fk :: st) sh M kc ks Q := x_aload_nf (gcl_m d) (gopt (e := (.aload_n 1, 1, 0, 0, 0)) gt205 rfl) rfl rfl
set_option maxRecDepth 100000 in
theorem u205_903 : gR (gcl d) X 205 903 [some (.ref o), l1, l2, l3] st sh M kc ks Q = gR (gcl d) X 205 904 [some (.ref o), l1, l2, l3] (.ref o :: st) sh M kc ks Q := x_aload_n (gcl_m d) (gopt (e := (.aload_n 0, 1, 0, 0, 0)) gt205 rfl) rfl rfl
set_option maxRecDepth 100000 in
theorem u205_903f : gR (gcl d) X 205 903 [some (.float fk), l1, l2, l3] st sh M kc ks Q = gR (gcl d) X 205 904 [some (.float fk), l1, l2, l3] (.float fk :: st) sh M kc ks Q := x_aload_nf (gcl_m d) (gopt (e := (.aload_n 0, 1, 0, 0, 0)) gt205 rfl) rfl rfl
set_option maxRecDepth 100000 in
theorem u205_904 : gR (gcl d) X 205 904 [l0, l1, l2, some (.int x)] st sh M kc ks Q = gR (gcl d) X 205 905 [l0, l1, l2, some (.int x)] (.int x :: st) sh M kc ks Q := x_iload_n (gcl_m d) (gopt (e := (.iload_n 3, 1, 0, 0, 0)) gt205 rfl) rfl rfl
set_option maxRecDepth 100000 in
theorem u205_905 : gR (gcl d) X 205 905 [l0, l1, l2, l3] st sh M kc ks Q = gR (gcl d) X 205 906 [l0, l1, l2, l3] (.int (nI 1) :: st) sh M kc ks Q := x_iconst (gcl_m d) (gopt (e := (.iconst 1, 1, 0, 0, 0)) gt205 rfl) (by decide) rfl
set_option maxRecDepth 100000 in
theorem u205_906 : gR (gcl d) X 205 906 [l0, l1, l2, l3] (.int y :: .int x :: st) sh M kc ks Q = gR (gcl d) X 205 907 [l0, l1, l2, l3] (.int (x + y) :: st) sh M kc ks Q := x_iadd (gcl_m d) (gopt (e := (.iadd, 1, 0, 0, 0)) gt205 rfl) rfl
set_option maxRecDepth 100000 in
theorem u205_907 : gR (gcl d) X 205 907 [l0, l1, l2, l3] (.int x :: .float fk :: st) sh M kc ks Q = (vp_in x (gro 205 X fk).1 ∧ gR (gcl d) X 205 908 [l0, l1, l2, l3] (.int ((gro 205 X fk).2 x.toNatClampNeg) :: st) sh M kc ks Q) := x_iaro (gcl_m d) (gopt (e := (.iaload, 1, 0, 0, 0)) gt205 rfl) rfl
set_option maxRecDepth 100000 in
theorem u205_908 : gR (gcl d) X 205 908 [some (.ref o), l1, l2, l3] st sh M kc ks Q = gR (gcl d) X 205 909 [some (.ref o), l1, l2, l3] (.ref o :: st) sh M kc ks Q := x_aload_n (gcl_m d) (gopt (e := (.aload_n 0, 1, 0, 0, 0)) gt205 rfl) rfl rfl
set_option maxRecDepth 100000 in
theorem u205_908f : gR (gcl d) X 205 908 [some (.float fk), l1, l2, l3] st sh M kc ks Q = gR (gcl d) X 205 909 [some (.float fk), l1, l2, l3] (.float fk :: st) sh M kc ks Q := x_aload_nf (gcl_m d) (gopt (e := (.aload_n 0, 1, 0, 0, 0)) gt205 rfl) rfl rfl
set_option maxRecDepth 100000 in
theorem u205_909 : gR (gcl d) X 205 909 [l0, l1, l2, some (.int x)] st sh M kc ks Q = gR (gcl d) X 205 910 [l0, l1, l2, some (.int x)] (.int x :: st) sh M kc ks Q := x_iload_n (gcl_m d) (gopt (e := (.iload_n 3, 1, 0, 0, 0)) gt205 rfl) rfl rfl
set_option maxRecDepth 100000 in
theorem u205_910 : gR (gcl d) X 205 910 [l0, l1, l2, l3] st sh M kc ks Q = gR (gcl d) X 205 911 [l0, l1, l2, l3] (.int (nI 2) :: st) sh M kc ks Q := x_iconst (gcl_m d) (gopt (e := (.iconst 2, 1, 0, 0, 0)) gt205 rfl) (by decide) rfl
set_option maxRecDepth 100000 in
theorem u205_911 : gR (gcl d) X 205 911 [l0, l1, l2, l3] (.int y :: .int x :: st) sh M kc ks Q = gR (gcl d) X 205 912 [l0, l1, l2, l3] (.int (x + y) :: st) sh M kc ks Q := x_iadd (gcl_m d) (gopt (e := (.iadd, 1, 0, 0, 0)) gt205 rfl) rfl
set_option maxRecDepth 100000 in
theorem u205_912 : gR (gcl d) X 205 912 [l0, l1, l2, l3] (.int x :: .float fk :: st) sh M kc ks Q = (vp_in x (gro 205 X fk).1 ∧ gR (gcl d) X 205 913 [l0, l1, l2, l3] (.int ((gro 205 X fk).2 x.toNatClampNeg) :: st) sh M kc ks Q) := x_iaro (gcl_m d) (gopt (e := (.iaload, 1, 0, 0, 0)) gt205 rfl) rfl
set_option maxRecDepth 100000 in
theorem u205_913 : gR (gcl d) X 205 913 [some (.ref o), l1, l2, l3] st sh M kc ks Q = gR (gcl d) X 205 914 [some (.ref o), l1, l2, l3] (.ref o :: st) sh M kc ks Q := x_aload_n (gcl_m d) (gopt (e := (.aload_n 0, 1, 0, 0, 0)) gt205 rfl) rfl rfl
set_option maxRecDepth 100000 in
theorem u205_913f : gR (gcl d) X 205 913 [some (.float fk), l1, l2, l3] st sh M kc ks Q = gR (gcl d) X 205 914 [some (.float fk), l1, l2, l3] (.float fk :: st) sh M kc ks Q := x_aload_nf (gcl_m d) (gopt (e := (.aload_n 0, 1, 0, 0, 0)) gt205 rfl) rfl rfl
set_option maxRecDepth 100000 in
theorem u205_914 : gR (gcl d) X 205 914 [l0, l1, l2, some (.int x)] st sh M kc ks Q = gR (gcl d) X 205 915 [l0, l1, l2, some (.int x)] (.int x :: st) sh M kc ks Q := x_iload_n (gcl_m d) (gopt (e := (.iload_n 3, 1, 0, 0, 0)) gt205 rfl) rfl rfl
set_option maxRecDepth 100000 in
theorem u205_915 : gR (gcl d) X 205 915 [l0, l1, l2, l3] st sh M kc ks Q = gR (gcl d) X 205 916 [l0, l1, l2, l3] (.int (nI 3) :: st) sh M kc ks Q := x_iconst (gcl_m d) (gopt (e := (.iconst 3, 1, 0, 0, 0)) gt205 rfl) (by decide) rfl
set_option maxRecDepth 100000 in
theorem u205_916 : gR (gcl d) X 205 916 [l0, l1, l2, l3] (.int y :: .int x :: st) sh M kc ks Q = gR (gcl d) X 205 917 [l0, l1, l2, l3] (.int (x + y) :: st) sh M kc ks Q := x_iadd (gcl_m d) (gopt (e := (.iadd, 1, 0, 0, 0)) gt205 rfl) rfl
set_option maxRecDepth 100000 in
theorem u205_917 : gR (gcl d) X 205 917 [l0, l1, l2, l3] (.int x :: .float fk :: st) sh M kc ks Q = (vp_in x (gro 205 X fk).1 ∧ gR (gcl d) X 205 918 [l0, l1, l2, l3] (.int ((gro 205 X fk).2 x.toNatClampNeg) :: st) sh M kc ks Q) := x_iaro (gcl_m d) (gopt (e := (.iaload, 1, 0, 0, 0)) gt205 rfl) rfl
set_option maxRecDepth 100000 in
theorem u205_918 : gR (gcl d) X 205 918 [some (.ref o), l1, l2, l3] st sh M kc ks Q = gR (gcl d) X 205 919 [some (.ref o), l1, l2, l3] (.ref o :: st) sh M kc ks Q := x_aload_n (gcl_m d) (gopt (e := (.aload_n 0, 1, 0, 0, 0)) gt205 rfl) rfl rfl
set_option maxRecDepth 100000 in
theorem u205_918f : gR (gcl d) X 205 918 [some (.float fk), l1, l2, l3] st sh M kc ks Q = gR (gcl d) X 205 919 [some (.float fk), l1, l2, l3] (.float fk :: st) sh M kc ks Q := x_aload_nf (gcl_m d) (gopt (e := (.aload_n 0, 1, 0, 0, 0)) gt205 rfl) rfl rfl
set_option maxRecDepth 100000 in
theorem u205_919 : gR (gcl d) X 205 919 [l0, l1, l2, some (.int x)] st sh M kc ks Q = gR (gcl d) X 205 920 [l0, l1, l2, some (.int x)] (.int x :: st) sh M kc ks Q := x_iload_n (gcl_m d) (gopt (e := (.iload_n 3, 1, 0, 0, 0)) gt205 rfl) rfl rfl
set_option maxRecDepth 100000 in
theorem u205_920 : gR (gcl d) X 205 920 [l0, l1, l2, l3] st sh M kc ks Q = gR (gcl d) X 205 921 [l0, l1, l2, l3] (.int (nI 4) :: st) sh M kc ks Q := x_iconst (gcl_m d) (gopt (e := (.iconst 4, 1, 0, 0, 0)) gt205 rfl) (by decide) rfl
set_option maxRecDepth 100000 in
theorem u205_921 : gR (gcl d) X 205 921 [l0, l1, l2, l3] (.int y :: .int x :: st) sh M kc ks Q = gR (gcl d) X 205 922 [l0, l1, l2, l3] (.int (x + y) :: st) sh M kc ks Q := x_iadd (gcl_m d) (gopt (e := (.iadd, 1, 0, 0, 0)) gt205 rfl) rfl
set_option maxRecDepth 100000 in
theorem u205_922 : gR (gcl d) X 205 922 [l0, l1, l2, l3] (.int x :: .float fk :: st) sh M kc ks Q = (vp_in x (gro 205 X fk).1 ∧ gR (gcl d) X 205 923 [l0, l1, l2, l3] (.int ((gro 205 X fk).2 x.toNatClampNeg) :: st) sh M kc ks Q) := x_iaro (gcl_m d) (gopt (e := (.iaload, 1, 0, 0, 0)) gt205 rfl) rfl
set_option maxRecDepth 100000 in
theorem u205_923 : gR (gcl d) X 205 923 [some (.ref o), l1, l2, l3] st sh M kc ks Q = gR (gcl d) X 205 924 [some (.ref o), l1, l2, l3] (.ref o :: st) sh M kc ks Q := x_aload_n (gcl_m d) (gopt (e := (.aload_n 0, 1, 0, 0, 0)) gt205 rfl) rfl rfl
set_option maxRecDepth 100000 in
theorem u205_923f : gR (gcl d) X 205 923 [some (.float fk), l1, l2, l3] st sh M kc ks Q = gR (gcl d) X 205 924 [some (.float fk), l1, l2, l3] (.float fk :: st) sh M kc ks Q := x_aload_nf (gcl_m d) (gopt (e := (.aload_n 0, 1, 0, 0, 0)) gt205 rfl) rfl rfl
set_option maxRecDepth 100000 in
theorem u205_924 : gR (gcl d) X 205 924 [l0, l1, l2, some (.int x)] st sh M kc ks Q = gR (gcl d) X 205 925 [l0, l1, l2, some (.int x)] (.int x :: st) sh M kc ks Q := x_iload_n (gcl_m d) (gopt (e := (.iload_n 3, 1, 0, 0, 0)) gt205 rfl) rfl rfl
set_option maxRecDepth 100000 in
theorem u205_925 : gR (gcl d) X 205 925 [l0, l1, l2, l3] st sh M kc ks Q = gR (gcl d) X 205 926 [l0, l1, l2, l3] (.int (nI 5) :: st) sh M kc ks Q := x_iconst (gcl_m d) (gopt (e := (.iconst 5, 1, 0, 0, 0)) gt205 rfl) (by decide) rfl
set_option maxRecDepth 100000 in
theorem u205_926 : gR (gcl d) X 205 926 [l0, l1, l2, l3] (.int y :: .int x :: st) sh M kc ks Q = gR (gcl d) X 205 927 [l0, l1, l2, l3] (.int (x + y) :: st) sh M kc ks Q := x_iadd (gcl_m d) (gopt (e := (.iadd, 1, 0, 0, 0)) gt205 rfl) rfl
set_option maxRecDepth 100000 in
theorem u205_927 : gR (gcl d) X 205 927 [l0, l1, l2, l3] (.int x :: .float fk :: st) sh M kc ks Q = (vp_in x (gro 205 X fk).1 ∧ gR (gcl d) X 205 928 [l0, l1, l2, l3] (.int ((gro 205 X fk).2 x.toNatClampNeg) :: st) sh M kc ks Q) := x_iaro (gcl_m d) (gopt (e := (.iaload, 1, 0, 0, 0)) gt205 rfl) rfl
set_option maxRecDepth 100000 in
theorem u205_928 : gR (gcl d) X 205 928 [l0, l1, l2, l3] (v5 :: v4 :: v3 :: v2 :: v1 :: .ref o :: st) sh M kc ks Q = ((gci sh o = some 6 ∧ st.length ≤ 4 ∧ gro1 205 kc ks 0 0) ∧ gcl d 97 [.ref o, v1, v2, v3, v4, v5] sh M fun v sh2 M2 => gR (gcl d) X 205 931 [l0, l1, l2, l3] (v ++ st) sh2 M2 kc ks Q) := x_virtk (gcl_m d) (gopt (e := (.invokevirtual 107, 3, 97, 5, 0)) gt205 rfl) rfl rfl rfl rfl rfl
set_option maxRecDepth 100000 in
theorem u205_931 : gR (gcl d) X 205 931 [l0, l1, some (.ref o), l3] st sh M kc ks Q = gR (gcl d) X 205 932 [l0, l1, some (.ref o), l3] (.ref o :: st) sh M kc ks Q := x_aload_n (gcl_m d) (gopt (e := (.aload_n 2, 1, 0, 0, 0)) gt205 rfl) rfl rfl
set_option maxRecDepth 100000 in
theorem u205_931f : gR (gcl d) X 205 931 [l0, l1, some (.float fk), l3] st sh M kc ks Q = gR (gcl d) X 205 932 [l0, l1, some (.float fk), l3] (.float fk :: st) sh M kc ks Q := x_aload_nf (gcl_m d) (gopt (e := (.aload_n 2, 1, 0, 0, 0)) gt205 rfl) rfl rfl
set_option maxRecDepth 100000 in
theorem u205_932 : gR (gcl d) X 205 932 [some (.ref o), l1, l2, l3] st sh M kc ks Q = gR (gcl d) X 205 933 [some (.ref o), l1, l2, l3] (.ref o :: st) sh M kc ks Q := x_aload_n (gcl_m d) (gopt (e := (.aload_n 0, 1, 0, 0, 0)) gt205 rfl) rfl rfl
set_option maxRecDepth 100000 in
theorem u205_932f : gR (gcl d) X 205 932 [some (.float fk), l1, l2, l3] st sh M kc ks Q = gR (gcl d) X 205 933 [some (.float fk), l1, l2, l3] (.float fk :: st) sh M kc ks Q := x_aload_nf (gcl_m d) (gopt (e := (.aload_n 0, 1, 0, 0, 0)) gt205 rfl) rfl rfl
set_option maxRecDepth 100000 in
theorem u205_933 : gR (gcl d) X 205 933 [l0, l1, l2, some (.int x)] st sh M kc ks Q = gR (gcl d) X 205 934 [l0, l1, l2, some (.int x)] (.int x :: st) sh M kc ks Q := x_iload_n (gcl_m d) (gopt (e := (.iload_n 3, 1, 0, 0, 0)) gt205 rfl) rfl rfl
set_option maxRecDepth 100000 in
theorem u205_934 : gR (gcl d) X 205 934 [l0, l1, l2, l3] st sh M kc ks Q = gR (gcl d) X 205 935 [l0, l1, l2, l3] (.int (nI 1) :: st) sh M kc ks Q := x_iconst (gcl_m d) (gopt (e := (.iconst 1, 1, 0, 0, 0)) gt205 rfl) (by decide) rfl
set_option maxRecDepth 100000 in
theorem u205_935 : gR (gcl d) X 205 935 [l0, l1, l2, l3] (.int y :: .int x :: st) sh M kc ks Q = gR (gcl d) X 205 936 [l0, l1, l2, l3] (.int (x + y) :: st) sh M kc ks Q := x_iadd (gcl_m d) (gopt (e := (.iadd, 1, 0, 0, 0)) gt205 rfl) rfl
set_option maxRecDepth 100000 in
theorem u205_936 : gR (gcl d) X 205 936 [l0, l1, l2, l3] (.int x :: .float fk :: st) sh M kc ks Q = (vp_in x (gro 205 X fk).1 ∧ gR (gcl d) X 205 937 [l0, l1, l2, l3] (.int ((gro 205 X fk).2 x.toNatClampNeg) :: st) sh M kc ks Q) := x_iaro (gcl_m d) (gopt (e := (.iaload, 1, 0, 0, 0)) gt205 rfl) rfl
set_option maxRecDepth 100000 in
theorem u205_937 : gR (gcl d) X 205 937 [some (.ref o), l1, l2, l3] st sh M kc ks Q = gR (gcl d) X 205 938 [some (.ref o), l1, l2, l3] (.ref o :: st) sh M kc ks Q := x_aload_n (gcl_m d) (gopt (e := (.aload_n 0, 1, 0, 0, 0)) gt205 rfl) rfl rfl
set_option maxRecDepth 100000 in
theorem u205_937f : gR (gcl d) X 205 937 [some (.float fk), l1, l2, l3] st sh M kc ks Q = gR (gcl d) X 205 938 [some (.float fk), l1, l2, l3] (.float fk :: st) sh M kc ks Q := x_aload_nf (gcl_m d) (gopt (e := (.aload_n 0, 1, 0, 0, 0)) gt205 rfl) rfl rfl
set_option maxRecDepth 100000 in
theorem u205_938 : gR (gcl d) X 205 938 [l0, l1, l2, some (.int x)] st sh M kc ks Q = gR (gcl d) X 205 939 [l0, l1, l2, some (.int x)] (.int x :: st) sh M kc ks Q := x_iload_n (gcl_m d) (gopt (e := (.iload_n 3, 1, 0, 0, 0)) gt205 rfl) rfl rfl
set_option maxRecDepth 100000 in
theorem u205_939 : gR (gcl d) X 205 939 [l0, l1, l2, l3] st sh M kc ks Q = gR (gcl d) X 205 940 [l0, l1, l2, l3] (.int (nI 2) :: st) sh M kc ks Q := x_iconst (gcl_m d) (gopt (e := (.iconst 2, 1, 0, 0, 0)) gt205 rfl) (by decide) rfl
set_option maxRecDepth 100000 in
theorem u205_940 : gR (gcl d) X 205 940 [l0, l1, l2, l3] (.int y :: .int x :: st) sh M kc ks Q = gR (gcl d) X 205 941 [l0, l1, l2, l3] (.int (x + y) :: st) sh M kc ks Q := x_iadd (gcl_m d) (gopt (e := (.iadd, 1, 0, 0, 0)) gt205 rfl) rfl
set_option maxRecDepth 100000 in
theorem u205_941 : gR (gcl d) X 205 941 [l0, l1, l2, l3] (.int x :: .float fk :: st) sh M kc ks Q = (vp_in x (gro 205 X fk).1 ∧ gR (gcl d) X 205 942 [l0, l1, l2, l3] (.int ((gro 205 X fk).2 x.toNatClampNeg) :: st) sh M kc ks Q) := x_iaro (gcl_m d) (gopt (e := (.iaload, 1, 0, 0, 0)) gt205 rfl) rfl
set_option maxRecDepth 100000 in
theorem u205_942 : gR (gcl d) X 205 942 [some (.ref o), l1, l2, l3] st sh M kc ks Q = gR (gcl d) X 205 943 [some (.ref o), l1, l2, l3] (.ref o :: st) sh M kc ks Q := x_aload_n (gcl_m d) (gopt (e := (.aload_n 0, 1, 0, 0, 0)) gt205 rfl) rfl rfl
set_option maxRecDepth 100000 in
theorem u205_942f : gR (gcl d) X 205 942 [some (.float fk), l1, l2, l3] st sh M kc ks Q = gR (gcl d) X 205 943 [some (.float fk), l1, l2, l3] (.float fk :: st) sh M kc ks Q := x_aload_nf (gcl_m d) (gopt (e := (.aload_n 0, 1, 0, 0, 0)) gt205 rfl) rfl rfl
set_option maxRecDepth 100000 in
theorem u205_943 : gR (gcl d) X 205 943 [l0, l1, l2, some (.int x)] st sh M kc ks Q = gR (gcl d) X 205 944 [l0, l1, l2, some (.int x)] (.int x :: st) sh M kc ks Q := x_iload_n (gcl_m d) (gopt (e := (.iload_n 3, 1, 0, 0, 0)) gt205 rfl) rfl rfl
set_option maxRecDepth 100000 in
theorem u205_944 : gR (gcl d) X 205 944 [l0, l1, l2, l3] st sh M kc ks Q = gR (gcl d) X 205 945 [l0, l1, l2, l3] (.int (nI 3) :: st) sh M kc ks Q := x_iconst (gcl_m d) (gopt (e := (.iconst 3, 1, 0, 0, 0)) gt205 rfl) (by decide) rfl
set_option maxRecDepth 100000 in
theorem u205_945 : gR (gcl d) X 205 945 [l0, l1, l2, l3] (.int y :: .int x :: st) sh M kc ks Q = gR (gcl d) X 205 946 [l0, l1, l2, l3] (.int (x + y) :: st) sh M kc ks Q := x_iadd (gcl_m d) (gopt (e := (.iadd, 1, 0, 0, 0)) gt205 rfl) rfl
set_option maxRecDepth 100000 in
theorem u205_946 : gR (gcl d) X 205 946 [l0, l1, l2, l3] (.int x :: .float fk :: st) sh M kc ks Q = (vp_in x (gro 205 X fk).1 ∧ gR (gcl d) X 205 947 [l0, l1, l2, l3] (.int ((gro 205 X fk).2 x.toNatClampNeg) :: st) sh M kc ks Q) := x_iaro (gcl_m d) (gopt (e := (.iaload, 1, 0, 0, 0)) gt205 rfl) rfl
set_option maxRecDepth 100000 in
theorem u205_947 : gR (gcl d) X 205 947 [some (.ref o), l1, l2, l3] st sh M kc ks Q = gR (gcl d) X 205 948 [some (.ref o), l1, l2, l3] (.ref o :: st) sh M kc ks Q := x_aload_n (gcl_m d) (gopt (e := (.aload_n 0, 1, 0, 0, 0)) gt205 rfl) rfl rfl
set_option maxRecDepth 100000 in
theorem u205_947f : gR (gcl d) X 205 947 [some (.float fk), l1, l2, l3] st sh M kc ks Q = gR (gcl d) X 205 948 [some (.float fk), l1, l2, l3] (.float fk :: st) sh M kc ks Q := x_aload_nf (gcl_m d) (gopt (e := (.aload_n 0, 1, 0, 0, 0)) gt205 rfl) rfl rfl
set_option maxRecDepth 100000 in
theorem u205_948 : gR (gcl d) X 205 948 [l0, l1, l2, some (.int x)] st sh M kc ks Q = gR (gcl d) X 205 949 [l0, l1, l2, some (.int x)] (.int x :: st) sh M kc ks Q := x_iload_n (gcl_m d) (gopt (e := (.iload_n 3, 1, 0, 0, 0)) gt205 rfl) rfl rfl
set_option maxRecDepth 100000 in
theorem u205_949 : gR (gcl d) X 205 949 [l0, l1, l2, l3] st sh M kc ks Q = gR (gcl d) X 205 950 [l0, l1, l2, l3] (.int (nI 4) :: st) sh M kc ks Q := x_iconst (gcl_m d) (gopt (e := (.iconst 4, 1, 0, 0, 0)) gt205 rfl) (by decide) rfl
set_option maxRecDepth 100000 in
theorem u205_950 : gR (gcl d) X 205 950 [l0, l1, l2, l3] (.int y :: .int x :: st) sh M kc ks Q = gR (gcl d) X 205 951 [l0, l1, l2, l3] (.int (x + y) :: st) sh M kc ks Q := x_iadd (gcl_m d) (gopt (e := (.iadd, 1, 0, 0, 0)) gt205 rfl) rfl
set_option maxRecDepth 100000 in
theorem u205_951 : gR (gcl d) X 205 951 [l0, l1, l2, l3] (.int x :: .float fk :: st) sh M kc ks Q = (vp_in x (gro 205 X fk).1 ∧ gR (gcl d) X 205 952 [l0, l1, l2, l3] (.int ((gro 205 X fk).2 x.toNatClampNeg) :: st) sh M kc ks Q) := x_iaro (gcl_m d) (gopt (e := (.iaload, 1, 0, 0, 0)) gt205 rfl) rfl
set_option maxRecDepth 100000 in
theorem u205_952 : gR (gcl d) X 205 952 [some (.ref o), l1, l2, l3] st sh M kc ks Q = gR (gcl d) X 205 953 [some (.ref o), l1, l2, l3] (.ref o :: st) sh M kc ks Q := x_aload_n (gcl_m d) (gopt (e := (.aload_n 0, 1, 0, 0, 0)) gt205 rfl) rfl rfl
set_option maxRecDepth 100000 in
theorem u205_952f : gR (gcl d) X 205 952 [some (.float fk), l1, l2, l3] st sh M kc ks Q = gR (gcl d) X 205 953 [some (.float fk), l1, l2, l3] (.float fk :: st) sh M kc ks Q := x_aload_nf (gcl_m d) (gopt (e := (.aload_n 0, 1, 0, 0, 0)) gt205 rfl) rfl rfl
set_option maxRecDepth 100000 in
theorem u205_953 : gR (gcl d) X 205 953 [l0, l1, l2, some (.int x)] st sh M kc ks Q = gR (gcl d) X 205 954 [l0, l1, l2, some (.int x)] (.int x :: st) sh M kc ks Q := x_iload_n (gcl_m d) (gopt (e := (.iload_n 3, 1, 0, 0, 0)) gt205 rfl) rfl rfl
set_option maxRecDepth 100000 in
theorem u205_954 : gR (gcl d) X 205 954 [l0, l1, l2, l3] st sh M kc ks Q = gR (gcl d) X 205 955 [l0, l1, l2, l3] (.int (nI 5) :: st) sh M kc ks Q := x_iconst (gcl_m d) (gopt (e := (.iconst 5, 1, 0, 0, 0)) gt205 rfl) (by decide) rfl
set_option maxRecDepth 100000 in
theorem u205_955 : gR (gcl d) X 205 955 [l0, l1, l2, l3] (.int y :: .int x :: st) sh M kc ks Q = gR (gcl d) X 205 956 [l0, l1, l2, l3] (.int (x + y) :: st) sh M kc ks Q := x_iadd (gcl_m d) (gopt (e := (.iadd, 1, 0, 0, 0)) gt205 rfl) rfl
set_option maxRecDepth 100000 in
theorem u205_956 : gR (gcl d) X 205 956 [l0, l1, l2, l3] (.int x :: .float fk :: st) sh M kc ks Q = (vp_in x (gro 205 X fk).1 ∧ gR (gcl d) X 205 957 [l0, l1, l2, l3] (.int ((gro 205 X fk).2 x.toNatClampNeg) :: st) sh M kc ks Q) := x_iaro (gcl_m d) (gopt (e := (.iaload, 1, 0, 0, 0)) gt205 rfl) rfl
set_option maxRecDepth 100000 in
theorem u205_957 : gR (gcl d) X 205 957 [l0, l1, l2, l3] (v5 :: v4 :: v3 :: v2 :: v1 :: .ref o :: st) sh M kc ks Q = ((gci sh o = some 7 ∧ st.length ≤ 4 ∧ gro1 205 kc ks 0 0) ∧ gcl d 182 [.ref o, v1, v2, v3, v4, v5] sh M fun v sh2 M2 => gR (gcl d) X 205 960 [l0, l1, l2, l3] (v ++ st) sh2 M2 kc ks Q) := x_virtk (gcl_m d) (gopt (e := (.invokevirtual 110, 3, 182, 5, 0)) gt205 rfl) rfl rfl rfl rfl rfl
set_option maxRecDepth 100000 in
theorem u205_960 : gR (gcl d) X 205 960 [l0, l1, l2, l3] (.int y :: .int x :: st) sh M kc ks Q = ((x = y → gR (gcl d) X 205 1222 [l0, l1, l2, l3] st sh M kc ks Q) ∧ (¬ x = y → gR (gcl d) X 205 963 [l0, l1, l2, l3] st sh M kc ks Q)) := x_icmp_eq (gcl_m d) (gopt (e := (.if_icmp .eq 262, 3, 1222, 0, 0)) gt205 rfl) rfl
set_option maxRecDepth 100000 in
theorem u205_963 : gR (gcl d) X 205 963 [l0, l1, l2, l3] st sh M kc ks Q = gR (gcl d) X 205 964 [l0, l1, l2, l3] (.int (nI 0) :: st) sh M kc ks Q := x_iconst (gcl_m d) (gopt (e := (.iconst 0, 1, 0, 0, 0)) gt205 rfl) (by decide) rfl
set_option maxRecDepth 100000 in
theorem u205_964 : gR (gcl d) X 205 964 [l0, l1, l2, l3] [.int (nI 1)] sh M kc ks Q = (gfin 205 kc ks ∧ Q [.int (nI 1)] sh M) := x_retk (gcl_m d) (gopt (e := (.ireturn, 1, 0, 0, 0)) gt205 rfl) (Or.inr ⟨rfl, Or.inr (by decide)⟩)
set_option maxRecDepth 100000 in
theorem u205_965 : gR (gcl d) X 205 965 [l0, some (.ref o), l2, l3] st sh M kc ks Q = gR (gcl d) X 205 966 [l0, some (.ref o), l2, l3] (.ref o :: st) sh M kc ks Q := x_aload_n (gcl_m d) (gopt (e := (.aload_n 1, 1, 0, 0, 0)) gt205 rfl) rfl rfl
set_option maxRecDepth 100000 in
theorem u205_965f : gR (gcl d) X 205 965 [l0, some (.float fk), l2, l3] st sh M kc ks Q = gR (gcl d) X 205 966 [l0, some (.float fk), l2, l3] (.float fk :: st) sh M kc ks Q := x_aload_nf (gcl_m d) (gopt (e := (.aload_n 1, 1, 0, 0, 0)) gt205 rfl) rfl rfl
set_option maxRecDepth 100000 in
theorem u205_966 : gR (gcl d) X 205 966 [some (.ref o), l1, l2, l3] st sh M kc ks Q = gR (gcl d) X 205 967 [some (.ref o), l1, l2, l3] (.ref o :: st) sh M kc ks Q := x_aload_n (gcl_m d) (gopt (e := (.aload_n 0, 1, 0, 0, 0)) gt205 rfl) rfl rfl
set_option maxRecDepth 100000 in
theorem u205_966f : gR (gcl d) X 205 966 [some (.float fk), l1, l2, l3] st sh M kc ks Q = gR (gcl d) X 205 967 [some (.float fk), l1, l2, l3] (.float fk :: st) sh M kc ks Q := x_aload_nf (gcl_m d) (gopt (e := (.aload_n 0, 1, 0, 0, 0)) gt205 rfl) rfl rfl
set_option maxRecDepth 100000 in
theorem u205_967 : gR (gcl d) X 205 967 [l0, l1, l2, some (.int x)] st sh M kc ks Q = gR (gcl d) X 205 968 [l0, l1, l2, some (.int x)] (.int x :: st) sh M kc ks Q := x_iload_n (gcl_m d) (gopt (e := (.iload_n 3, 1, 0, 0, 0)) gt205 rfl) rfl rfl
set_option maxRecDepth 100000 in
theorem u205_968 : gR (gcl d) X 205 968 [l0, l1, l2, l3] st sh M kc ks Q = gR (gcl d) X 205 969 [l0, l1, l2, l3] (.int (nI 1) :: st) sh M kc ks Q := x_iconst (gcl_m d) (gopt (e := (.iconst 1, 1, 0, 0, 0)) gt205 rfl) (by decide) rfl
set_option maxRecDepth 100000 in
theorem u205_969 : gR (gcl d) X 205 969 [l0, l1, l2, l3] (.int y :: .int x :: st) sh M kc ks Q = gR (gcl d) X 205 970 [l0, l1, l2, l3] (.int (x + y) :: st) sh M kc ks Q := x_iadd (gcl_m d) (gopt (e := (.iadd, 1, 0, 0, 0)) gt205 rfl) rfl
set_option maxRecDepth 100000 in
theorem u205_970 : gR (gcl d) X 205 970 [l0, l1, l2, l3] (.int x :: .float fk :: st) sh M kc ks Q = (vp_in x (gro 205 X fk).1 ∧ gR (gcl d) X 205 971 [l0, l1, l2, l3] (.int ((gro 205 X fk).2 x.toNatClampNeg) :: st) sh M kc ks Q) := x_iaro (gcl_m d) (gopt (e := (.iaload, 1, 0, 0, 0)) gt205 rfl) rfl
set_option maxRecDepth 100000 in
theorem u205_971 : gR (gcl d) X 205 971 [some (.ref o), l1, l2, l3] st sh M kc ks Q = gR (gcl d) X 205 972 [some (.ref o), l1, l2, l3] (.ref o :: st) sh M kc ks Q := x_aload_n (gcl_m d) (gopt (e := (.aload_n 0, 1, 0, 0, 0)) gt205 rfl) rfl rfl
set_option maxRecDepth 100000 in
theorem u205_971f : gR (gcl d) X 205 971 [some (.float fk), l1, l2, l3] st sh M kc ks Q = gR (gcl d) X 205 972 [some (.float fk), l1, l2, l3] (.float fk :: st) sh M kc ks Q := x_aload_nf (gcl_m d) (gopt (e := (.aload_n 0, 1, 0, 0, 0)) gt205 rfl) rfl rfl
set_option maxRecDepth 100000 in
theorem u205_972 : gR (gcl d) X 205 972 [l0, l1, l2, some (.int x)] st sh M kc ks Q = gR (gcl d) X 205 973 [l0, l1, l2, some (.int x)] (.int x :: st) sh M kc ks Q := x_iload_n (gcl_m d) (gopt (e := (.iload_n 3, 1, 0, 0, 0)) gt205 rfl) rfl rfl
set_option maxRecDepth 100000 in
theorem u205_973 : gR (gcl d) X 205 973 [l0, l1, l2, l3] st sh M kc ks Q = gR (gcl d) X 205 974 [l0, l1, l2, l3] (.int (nI 2) :: st) sh M kc ks Q := x_iconst (gcl_m d) (gopt (e := (.iconst 2, 1, 0, 0, 0)) gt205 rfl) (by decide) rfl
set_option maxRecDepth 100000 in
theorem u205_974 : gR (gcl d) X 205 974 [l0, l1, l2, l3] (.int y :: .int x :: st) sh M kc ks Q = gR (gcl d) X 205 975 [l0, l1, l2, l3] (.int (x + y) :: st) sh M kc ks Q := x_iadd (gcl_m d) (gopt (e := (.iadd, 1, 0, 0, 0)) gt205 rfl) rfl
set_option maxRecDepth 100000 in
theorem u205_975 : gR (gcl d) X 205 975 [l0, l1, l2, l3] (.int x :: .float fk :: st) sh M kc ks Q = (vp_in x (gro 205 X fk).1 ∧ gR (gcl d) X 205 976 [l0, l1, l2, l3] (.int ((gro 205 X fk).2 x.toNatClampNeg) :: st) sh M kc ks Q) := x_iaro (gcl_m d) (gopt (e := (.iaload, 1, 0, 0, 0)) gt205 rfl) rfl
set_option maxRecDepth 100000 in
theorem u205_976 : gR (gcl d) X 205 976 [some (.ref o), l1, l2, l3] st sh M kc ks Q = gR (gcl d) X 205 977 [some (.ref o), l1, l2, l3] (.ref o :: st) sh M kc ks Q := x_aload_n (gcl_m d) (gopt (e := (.aload_n 0, 1, 0, 0, 0)) gt205 rfl) rfl rfl
set_option maxRecDepth 100000 in
theorem u205_976f : gR (gcl d) X 205 976 [some (.float fk), l1, l2, l3] st sh M kc ks Q = gR (gcl d) X 205 977 [some (.float fk), l1, l2, l3] (.float fk :: st) sh M kc ks Q := x_aload_nf (gcl_m d) (gopt (e := (.aload_n 0, 1, 0, 0, 0)) gt205 rfl) rfl rfl
set_option maxRecDepth 100000 in
theorem u205_977 : gR (gcl d) X 205 977 [l0, l1, l2, some (.int x)] st sh M kc ks Q = gR (gcl d) X 205 978 [l0, l1, l2, some (.int x)] (.int x :: st) sh M kc ks Q := x_iload_n (gcl_m d) (gopt (e := (.iload_n 3, 1, 0, 0, 0)) gt205 rfl) rfl rfl
set_option maxRecDepth 100000 in
theorem u205_978 : gR (gcl d) X 205 978 [l0, l1, l2, l3] st sh M kc ks Q = gR (gcl d) X 205 979 [l0, l1, l2, l3] (.int (nI 3) :: st) sh M kc ks Q := x_iconst (gcl_m d) (gopt (e := (.iconst 3, 1, 0, 0, 0)) gt205 rfl) (by decide) rfl
set_option maxRecDepth 100000 in
theorem u205_979 : gR (gcl d) X 205 979 [l0, l1, l2, l3] (.int y :: .int x :: st) sh M kc ks Q = gR (gcl d) X 205 980 [l0, l1, l2, l3] (.int (x + y) :: st) sh M kc ks Q := x_iadd (gcl_m d) (gopt (e := (.iadd, 1, 0, 0, 0)) gt205 rfl) rfl
set_option maxRecDepth 100000 in
theorem u205_980 : gR (gcl d) X 205 980 [l0, l1, l2, l3] (.int x :: .float fk :: st) sh M kc ks Q = (vp_in x (gro 205 X fk).1 ∧ gR (gcl d) X 205 981 [l0, l1, l2, l3] (.int ((gro 205 X fk).2 x.toNatClampNeg) :: st) sh M kc ks Q) := x_iaro (gcl_m d) (gopt (e := (.iaload, 1, 0, 0, 0)) gt205 rfl) rfl
set_option maxRecDepth 100000 in
theorem u205_981 : gR (gcl d) X 205 981 [some (.ref o), l1, l2, l3] st sh M kc ks Q = gR (gcl d) X 205 982 [some (.ref o), l1, l2, l3] (.ref o :: st) sh M kc ks Q := x_aload_n (gcl_m d) (gopt (e := (.aload_n 0, 1, 0, 0, 0)) gt205 rfl) rfl rfl
set_option maxRecDepth 100000 in
theorem u205_981f : gR (gcl d) X 205 981 [some (.float fk), l1, l2, l3] st sh M kc ks Q = gR (gcl d) X 205 982 [some (.float fk), l1, l2, l3] (.float fk :: st) sh M kc ks Q := x_aload_nf (gcl_m d) (gopt (e := (.aload_n 0, 1, 0, 0, 0)) gt205 rfl) rfl rfl
set_option maxRecDepth 100000 in
theorem u205_982 : gR (gcl d) X 205 982 [l0, l1, l2, some (.int x)] st sh M kc ks Q = gR (gcl d) X 205 983 [l0, l1, l2, some (.int x)] (.int x :: st) sh M kc ks Q := x_iload_n (gcl_m d) (gopt (e := (.iload_n 3, 1, 0, 0, 0)) gt205 rfl) rfl rfl
set_option maxRecDepth 100000 in
theorem u205_983 : gR (gcl d) X 205 983 [l0, l1, l2, l3] st sh M kc ks Q = gR (gcl d) X 205 984 [l0, l1, l2, l3] (.int (nI 4) :: st) sh M kc ks Q := x_iconst (gcl_m d) (gopt (e := (.iconst 4, 1, 0, 0, 0)) gt205 rfl) (by decide) rfl
set_option maxRecDepth 100000 in
theorem u205_984 : gR (gcl d) X 205 984 [l0, l1, l2, l3] (.int y :: .int x :: st) sh M kc ks Q = gR (gcl d) X 205 985 [l0, l1, l2, l3] (.int (x + y) :: st) sh M kc ks Q := x_iadd (gcl_m d) (gopt (e := (.iadd, 1, 0, 0, 0)) gt205 rfl) rfl
set_option maxRecDepth 100000 in
theorem u205_985 : gR (gcl d) X 205 985 [l0, l1, l2, l3] (.int x :: .float fk :: st) sh M kc ks Q = (vp_in x (gro 205 X fk).1 ∧ gR (gcl d) X 205 986 [l0, l1, l2, l3] (.int ((gro 205 X fk).2 x.toNatClampNeg) :: st) sh M kc ks Q) := x_iaro (gcl_m d) (gopt (e := (.iaload, 1, 0, 0, 0)) gt205 rfl) rfl
set_option maxRecDepth 100000 in
theorem u205_986 : gR (gcl d) X 205 986 [some (.ref o), l1, l2, l3] st sh M kc ks Q = gR (gcl d) X 205 987 [some (.ref o), l1, l2, l3] (.ref o :: st) sh M kc ks Q := x_aload_n (gcl_m d) (gopt (e := (.aload_n 0, 1, 0, 0, 0)) gt205 rfl) rfl rfl
set_option maxRecDepth 100000 in
theorem u205_986f : gR (gcl d) X 205 986 [some (.float fk), l1, l2, l3] st sh M kc ks Q = gR (gcl d) X 205 987 [some (.float fk), l1, l2, l3] (.float fk :: st) sh M kc ks Q := x_aload_nf (gcl_m d) (gopt (e := (.aload_n 0, 1, 0, 0, 0)) gt205 rfl) rfl rfl
set_option maxRecDepth 100000 in
theorem u205_987 : gR (gcl d) X 205 987 [l0, l1, l2, some (.int x)] st sh M kc ks Q = gR (gcl d) X 205 988 [l0, l1, l2, some (.int x)] (.int x :: st) sh M kc ks Q := x_iload_n (gcl_m d) (gopt (e := (.iload_n 3, 1, 0, 0, 0)) gt205 rfl) rfl rfl
set_option maxRecDepth 100000 in
theorem u205_988 : gR (gcl d) X 205 988 [l0, l1, l2, l3] st sh M kc ks Q = gR (gcl d) X 205 989 [l0, l1, l2, l3] (.int (nI 5) :: st) sh M kc ks Q := x_iconst (gcl_m d) (gopt (e := (.iconst 5, 1, 0, 0, 0)) gt205 rfl) (by decide) rfl
set_option maxRecDepth 100000 in
theorem u205_989 : gR (gcl d) X 205 989 [l0, l1, l2, l3] (.int y :: .int x :: st) sh M kc ks Q = gR (gcl d) X 205 990 [l0, l1, l2, l3] (.int (x + y) :: st) sh M kc ks Q := x_iadd (gcl_m d) (gopt (e := (.iadd, 1, 0, 0, 0)) gt205 rfl) rfl
set_option maxRecDepth 100000 in
theorem u205_990 : gR (gcl d) X 205 990 [l0, l1, l2, l3] (.int x :: .float fk :: st) sh M kc ks Q = (vp_in x (gro 205 X fk).1 ∧ gR (gcl d) X 205 991 [l0, l1, l2, l3] (.int ((gro 205 X fk).2 x.toNatClampNeg) :: st) sh M kc ks Q) := x_iaro (gcl_m d) (gopt (e := (.iaload, 1, 0, 0, 0)) gt205 rfl) rfl
set_option maxRecDepth 100000 in
theorem u205_991 : gR (gcl d) X 205 991 [l0, l1, l2, l3] (v5 :: v4 :: v3 :: v2 :: v1 :: .ref o :: st) sh M kc ks Q = ((gci sh o = some 6 ∧ st.length ≤ 4 ∧ gro1 205 kc ks 0 0) ∧ gcl d 98 [.ref o, v1, v2, v3, v4, v5] sh M fun v sh2 M2 => gR (gcl d) X 205 994 [l0, l1, l2, l3] (v ++ st) sh2 M2 kc ks Q) := x_virtk (gcl_m d) (gopt (e := (.invokevirtual 111, 3, 98, 5, 0)) gt205 rfl) rfl rfl rfl rfl rfl
set_option maxRecDepth 100000 in
theorem u205_994 : gR (gcl d) X 205 994 [l0, l1, some (.ref o), l3] st sh M kc ks Q = gR (gcl d) X 205 995 [l0, l1, some (.ref o), l3] (.ref o :: st) sh M kc ks Q := x_aload_n (gcl_m d) (gopt (e := (.aload_n 2, 1, 0, 0, 0)) gt205 rfl) rfl rfl
set_option maxRecDepth 100000 in
theorem u205_994f : gR (gcl d) X 205 994 [l0, l1, some (.float fk), l3] st sh M kc ks Q = gR (gcl d) X 205 995 [l0, l1, some (.float fk), l3] (.float fk :: st) sh M kc ks Q := x_aload_nf (gcl_m d) (gopt (e := (.aload_n 2, 1, 0, 0, 0)) gt205 rfl) rfl rfl
set_option maxRecDepth 100000 in
theorem u205_995 : gR (gcl d) X 205 995 [some (.ref o), l1, l2, l3] st sh M kc ks Q = gR (gcl d) X 205 996 [some (.ref o), l1, l2, l3] (.ref o :: st) sh M kc ks Q := x_aload_n (gcl_m d) (gopt (e := (.aload_n 0, 1, 0, 0, 0)) gt205 rfl) rfl rfl
set_option maxRecDepth 100000 in
theorem u205_995f : gR (gcl d) X 205 995 [some (.float fk), l1, l2, l3] st sh M kc ks Q = gR (gcl d) X 205 996 [some (.float fk), l1, l2, l3] (.float fk :: st) sh M kc ks Q := x_aload_nf (gcl_m d) (gopt (e := (.aload_n 0, 1, 0, 0, 0)) gt205 rfl) rfl rfl
set_option maxRecDepth 100000 in
theorem u205_996 : gR (gcl d) X 205 996 [l0, l1, l2, some (.int x)] st sh M kc ks Q = gR (gcl d) X 205 997 [l0, l1, l2, some (.int x)] (.int x :: st) sh M kc ks Q := x_iload_n (gcl_m d) (gopt (e := (.iload_n 3, 1, 0, 0, 0)) gt205 rfl) rfl rfl
set_option maxRecDepth 100000 in
theorem u205_997 : gR (gcl d) X 205 997 [l0, l1, l2, l3] st sh M kc ks Q = gR (gcl d) X 205 998 [l0, l1, l2, l3] (.int (nI 1) :: st) sh M kc ks Q := x_iconst (gcl_m d) (gopt (e := (.iconst 1, 1, 0, 0, 0)) gt205 rfl) (by decide) rfl
set_option maxRecDepth 100000 in
theorem u205_998 : gR (gcl d) X 205 998 [l0, l1, l2, l3] (.int y :: .int x :: st) sh M kc ks Q = gR (gcl d) X 205 999 [l0, l1, l2, l3] (.int (x + y) :: st) sh M kc ks Q := x_iadd (gcl_m d) (gopt (e := (.iadd, 1, 0, 0, 0)) gt205 rfl) rfl
set_option maxRecDepth 100000 in
theorem u205_999 : gR (gcl d) X 205 999 [l0, l1, l2, l3] (.int x :: .float fk :: st) sh M kc ks Q = (vp_in x (gro 205 X fk).1 ∧ gR (gcl d) X 205 1000 [l0, l1, l2, l3] (.int ((gro 205 X fk).2 x.toNatClampNeg) :: st) sh M kc ks Q) := x_iaro (gcl_m d) (gopt (e := (.iaload, 1, 0, 0, 0)) gt205 rfl) rfl
set_option maxRecDepth 100000 in
theorem u205_1000 : gR (gcl d) X 205 1000 [some (.ref o), l1, l2, l3] st sh M kc ks Q = gR (gcl d) X 205 1001 [some (.ref o), l1, l2, l3] (.ref o :: st) sh M kc ks Q := x_aload_n (gcl_m d) (gopt (e := (.aload_n 0, 1, 0, 0, 0)) gt205 rfl) rfl rfl
set_option maxRecDepth 100000 in
theorem u205_1000f : gR (gcl d) X 205 1000 [some (.float fk), l1, l2, l3] st sh M kc ks Q = gR (gcl d) X 205 1001 [some (.float fk), l1, l2, l3] (.float fk :: st) sh M kc ks Q := x_aload_nf (gcl_m d) (gopt (e := (.aload_n 0, 1, 0, 0, 0)) gt205 rfl) rfl rfl
set_option maxRecDepth 100000 in
theorem u205_1001 : gR (gcl d) X 205 1001 [l0, l1, l2, some (.int x)] st sh M kc ks Q = gR (gcl d) X 205 1002 [l0, l1, l2, some (.int x)] (.int x :: st) sh M kc ks Q := x_iload_n (gcl_m d) (gopt (e := (.iload_n 3, 1, 0, 0, 0)) gt205 rfl) rfl rfl
set_option maxRecDepth 100000 in
theorem u205_1002 : gR (gcl d) X 205 1002 [l0, l1, l2, l3] st sh M kc ks Q = gR (gcl d) X 205 1003 [l0, l1, l2, l3] (.int (nI 2) :: st) sh M kc ks Q := x_iconst (gcl_m d) (gopt (e := (.iconst 2, 1, 0, 0, 0)) gt205 rfl) (by decide) rfl
set_option maxRecDepth 100000 in
theorem u205_1003 : gR (gcl d) X 205 1003 [l0, l1, l2, l3] (.int y :: .int x :: st) sh M kc ks Q = gR (gcl d) X 205 1004 [l0, l1, l2, l3] (.int (x + y) :: st) sh M kc ks Q := x_iadd (gcl_m d) (gopt (e := (.iadd, 1, 0, 0, 0)) gt205 rfl) rfl
set_option maxRecDepth 100000 in
theorem u205_1004 : gR (gcl d) X 205 1004 [l0, l1, l2, l3] (.int x :: .float fk :: st) sh M kc ks Q = (vp_in x (gro 205 X fk).1 ∧ gR (gcl d) X 205 1005 [l0, l1, l2, l3] (.int ((gro 205 X fk).2 x.toNatClampNeg) :: st) sh M kc ks Q) := x_iaro (gcl_m d) (gopt (e := (.iaload, 1, 0, 0, 0)) gt205 rfl) rfl
set_option maxRecDepth 100000 in
theorem u205_1005 : gR (gcl d) X 205 1005 [some (.ref o), l1, l2, l3] st sh M kc ks Q = gR (gcl d) X 205 1006 [some (.ref o), l1, l2, l3] (.ref o :: st) sh M kc ks Q := x_aload_n (gcl_m d) (gopt (e := (.aload_n 0, 1, 0, 0, 0)) gt205 rfl) rfl rfl
set_option maxRecDepth 100000 in
theorem u205_1005f : gR (gcl d) X 205 1005 [some (.float fk), l1, l2, l3] st sh M kc ks Q = gR (gcl d) X 205 1006 [some (.float fk), l1, l2, l3] (.float fk :: st) sh M kc ks Q := x_aload_nf (gcl_m d) (gopt (e := (.aload_n 0, 1, 0, 0, 0)) gt205 rfl) rfl rfl
set_option maxRecDepth 100000 in
theorem u205_1006 : gR (gcl d) X 205 1006 [l0, l1, l2, some (.int x)] st sh M kc ks Q = gR (gcl d) X 205 1007 [l0, l1, l2, some (.int x)] (.int x :: st) sh M kc ks Q := x_iload_n (gcl_m d) (gopt (e := (.iload_n 3, 1, 0, 0, 0)) gt205 rfl) rfl rfl
set_option maxRecDepth 100000 in
theorem u205_1007 : gR (gcl d) X 205 1007 [l0, l1, l2, l3] st sh M kc ks Q = gR (gcl d) X 205 1008 [l0, l1, l2, l3] (.int (nI 3) :: st) sh M kc ks Q := x_iconst (gcl_m d) (gopt (e := (.iconst 3, 1, 0, 0, 0)) gt205 rfl) (by decide) rfl
set_option maxRecDepth 100000 in
theorem u205_1008 : gR (gcl d) X 205 1008 [l0, l1, l2, l3] (.int y :: .int x :: st) sh M kc ks Q = gR (gcl d) X 205 1009 [l0, l1, l2, l3] (.int (x + y) :: st) sh M kc ks Q := x_iadd (gcl_m d) (gopt (e := (.iadd, 1, 0, 0, 0)) gt205 rfl) rfl
set_option maxRecDepth 100000 in
theorem u205_1009 : gR (gcl d) X 205 1009 [l0, l1, l2, l3] (.int x :: .float fk :: st) sh M kc ks Q = (vp_in x (gro 205 X fk).1 ∧ gR (gcl d) X 205 1010 [l0, l1, l2, l3] (.int ((gro 205 X fk).2 x.toNatClampNeg) :: st) sh M kc ks Q) := x_iaro (gcl_m d) (gopt (e := (.iaload, 1, 0, 0, 0)) gt205 rfl) rfl
set_option maxRecDepth 100000 in
theorem u205_1010 : gR (gcl d) X 205 1010 [some (.ref o), l1, l2, l3] st sh M kc ks Q = gR (gcl d) X 205 1011 [some (.ref o), l1, l2, l3] (.ref o :: st) sh M kc ks Q := x_aload_n (gcl_m d) (gopt (e := (.aload_n 0, 1, 0, 0, 0)) gt205 rfl) rfl rfl
set_option maxRecDepth 100000 in
theorem u205_1010f : gR (gcl d) X 205 1010 [some (.float fk), l1, l2, l3] st sh M kc ks Q = gR (gcl d) X 205 1011 [some (.float fk), l1, l2, l3] (.float fk :: st) sh M kc ks Q := x_aload_nf (gcl_m d) (gopt (e := (.aload_n 0, 1, 0, 0, 0)) gt205 rfl) rfl rfl
set_option maxRecDepth 100000 in
theorem u205_1011 : gR (gcl d) X 205 1011 [l0, l1, l2, some (.int x)] st sh M kc ks Q = gR (gcl d) X 205 1012 [l0, l1, l2, some (.int x)] (.int x :: st) sh M kc ks Q := x_iload_n (gcl_m d) (gopt (e := (.iload_n 3, 1, 0, 0, 0)) gt205 rfl) rfl rfl
set_option maxRecDepth 100000 in
theorem u205_1012 : gR (gcl d) X 205 1012 [l0, l1, l2, l3] st sh M kc ks Q = gR (gcl d) X 205 1013 [l0, l1, l2, l3] (.int (nI 4) :: st) sh M kc ks Q := x_iconst (gcl_m d) (gopt (e := (.iconst 4, 1, 0, 0, 0)) gt205 rfl) (by decide) rfl
set_option maxRecDepth 100000 in
theorem u205_1013 : gR (gcl d) X 205 1013 [l0, l1, l2, l3] (.int y :: .int x :: st) sh M kc ks Q = gR (gcl d) X 205 1014 [l0, l1, l2, l3] (.int (x + y) :: st) sh M kc ks Q := x_iadd (gcl_m d) (gopt (e := (.iadd, 1, 0, 0, 0)) gt205 rfl) rfl
set_option maxRecDepth 100000 in
theorem u205_1014 : gR (gcl d) X 205 1014 [l0, l1, l2, l3] (.int x :: .float fk :: st) sh M kc ks Q = (vp_in x (gro 205 X fk).1 ∧ gR (gcl d) X 205 1015 [l0, l1, l2, l3] (.int ((gro 205 X fk).2 x.toNatClampNeg) :: st) sh M kc ks Q) := x_iaro (gcl_m d) (gopt (e := (.iaload, 1, 0, 0, 0)) gt205 rfl) rfl
set_option maxRecDepth 100000 in
theorem u205_1015 : gR (gcl d) X 205 1015 [some (.ref o), l1, l2, l3] st sh M kc ks Q = gR (gcl d) X 205 1016 [some (.ref o), l1, l2, l3] (.ref o :: st) sh M kc ks Q := x_aload_n (gcl_m d) (gopt (e := (.aload_n 0, 1, 0, 0, 0)) gt205 rfl) rfl rfl
set_option maxRecDepth 100000 in
theorem u205_1015f : gR (gcl d) X 205 1015 [some (.float fk), l1, l2, l3] st sh M kc ks Q = gR (gcl d) X 205 1016 [some (.float fk), l1, l2, l3] (.float fk :: st) sh M kc ks Q := x_aload_nf (gcl_m d) (gopt (e := (.aload_n 0, 1, 0, 0, 0)) gt205 rfl) rfl rfl
set_option maxRecDepth 100000 in
theorem u205_1016 : gR (gcl d) X 205 1016 [l0, l1, l2, some (.int x)] st sh M kc ks Q = gR (gcl d) X 205 1017 [l0, l1, l2, some (.int x)] (.int x :: st) sh M kc ks Q := x_iload_n (gcl_m d) (gopt (e := (.iload_n 3, 1, 0, 0, 0)) gt205 rfl) rfl rfl
set_option maxRecDepth 100000 in
theorem u205_1017 : gR (gcl d) X 205 1017 [l0, l1, l2, l3] st sh M kc ks Q = gR (gcl d) X 205 1018 [l0, l1, l2, l3] (.int (nI 5) :: st) sh M kc ks Q := x_iconst (gcl_m d) (gopt (e := (.iconst 5, 1, 0, 0, 0)) gt205 rfl) (by decide) rfl
set_option maxRecDepth 100000 in
theorem u205_1018 : gR (gcl d) X 205 1018 [l0, l1, l2, l3] (.int y :: .int x :: st) sh M kc ks Q = gR (gcl d) X 205 1019 [l0, l1, l2, l3] (.int (x + y) :: st) sh M kc ks Q := x_iadd (gcl_m d) (gopt (e := (.iadd, 1, 0, 0, 0)) gt205 rfl) rfl
set_option maxRecDepth 100000 in
theorem u205_1019 : gR (gcl d) X 205 1019 [l0, l1, l2, l3] (.int x :: .float fk :: st) sh M kc ks Q = (vp_in x (gro 205 X fk).1 ∧ gR (gcl d) X 205 1020 [l0, l1, l2, l3] (.int ((gro 205 X fk).2 x.toNatClampNeg) :: st) sh M kc ks Q) := x_iaro (gcl_m d) (gopt (e := (.iaload, 1, 0, 0, 0)) gt205 rfl) rfl
set_option maxRecDepth 100000 in
theorem u205_1020 : gR (gcl d) X 205 1020 [l0, l1, l2, l3] (v5 :: v4 :: v3 :: v2 :: v1 :: .ref o :: st) sh M kc ks Q = ((gci sh o = some 7 ∧ st.length ≤ 4 ∧ gro1 205 kc ks 0 0) ∧ gcl d 183 [.ref o, v1, v2, v3, v4, v5] sh M fun v sh2 M2 => gR (gcl d) X 205 1023 [l0, l1, l2, l3] (v ++ st) sh2 M2 kc ks Q) := x_virtk (gcl_m d) (gopt (e := (.invokevirtual 114, 3, 183, 5, 0)) gt205 rfl) rfl rfl rfl rfl rfl
set_option maxRecDepth 100000 in
theorem u205_1023 : gR (gcl d) X 205 1023 [l0, l1, l2, l3] (.int y :: .int x :: st) sh M kc ks Q = ((x = y → gR (gcl d) X 205 1222 [l0, l1, l2, l3] st sh M kc ks Q) ∧ (¬ x = y → gR (gcl d) X 205 1026 [l0, l1, l2, l3] st sh M kc ks Q)) := x_icmp_eq (gcl_m d) (gopt (e := (.if_icmp .eq 199, 3, 1222, 0, 0)) gt205 rfl) rfl
set_option maxRecDepth 100000 in
theorem u205_1026 : gR (gcl d) X 205 1026 [l0, l1, l2, l3] st sh M kc ks Q = gR (gcl d) X 205 1027 [l0, l1, l2, l3] (.int (nI 0) :: st) sh M kc ks Q := x_iconst (gcl_m d) (gopt (e := (.iconst 0, 1, 0, 0, 0)) gt205 rfl) (by decide) rfl
set_option maxRecDepth 100000 in
theorem u205_1027 : gR (gcl d) X 205 1027 [l0, l1, l2, l3] [.int (nI 1)] sh M kc ks Q = (gfin 205 kc ks ∧ Q [.int (nI 1)] sh M) := x_retk (gcl_m d) (gopt (e := (.ireturn, 1, 0, 0, 0)) gt205 rfl) (Or.inr ⟨rfl, Or.inr (by decide)⟩)
set_option maxRecDepth 100000 in
theorem u205_1028 : gR (gcl d) X 205 1028 [l0, some (.ref o), l2, l3] st sh M kc ks Q = gR (gcl d) X 205 1029 [l0, some (.ref o), l2, l3] (.ref o :: st) sh M kc ks Q := x_aload_n (gcl_m d) (gopt (e := (.aload_n 1, 1, 0, 0, 0)) gt205 rfl) rfl rfl
set_option maxRecDepth 100000 in
theorem u205_1028f : gR (gcl d) X 205 1028 [l0, some (.float fk), l2, l3] st sh M kc ks Q = gR (gcl d) X 205 1029 [l0, some (.float fk), l2, l3] (.float fk :: st) sh M kc ks Q := x_aload_nf (gcl_m d) (gopt (e := (.aload_n 1, 1, 0, 0, 0)) gt205 rfl) rfl rfl
set_option maxRecDepth 100000 in
theorem u205_1029 : gR (gcl d) X 205 1029 [some (.ref o), l1, l2, l3] st sh M kc ks Q = gR (gcl d) X 205 1030 [some (.ref o), l1, l2, l3] (.ref o :: st) sh M kc ks Q := x_aload_n (gcl_m d) (gopt (e := (.aload_n 0, 1, 0, 0, 0)) gt205 rfl) rfl rfl
set_option maxRecDepth 100000 in
theorem u205_1029f : gR (gcl d) X 205 1029 [some (.float fk), l1, l2, l3] st sh M kc ks Q = gR (gcl d) X 205 1030 [some (.float fk), l1, l2, l3] (.float fk :: st) sh M kc ks Q := x_aload_nf (gcl_m d) (gopt (e := (.aload_n 0, 1, 0, 0, 0)) gt205 rfl) rfl rfl
set_option maxRecDepth 100000 in
theorem u205_1030 : gR (gcl d) X 205 1030 [l0, l1, l2, some (.int x)] st sh M kc ks Q = gR (gcl d) X 205 1031 [l0, l1, l2, some (.int x)] (.int x :: st) sh M kc ks Q := x_iload_n (gcl_m d) (gopt (e := (.iload_n 3, 1, 0, 0, 0)) gt205 rfl) rfl rfl
set_option maxRecDepth 100000 in
theorem u205_1031 : gR (gcl d) X 205 1031 [l0, l1, l2, l3] st sh M kc ks Q = gR (gcl d) X 205 1032 [l0, l1, l2, l3] (.int (nI 1) :: st) sh M kc ks Q := x_iconst (gcl_m d) (gopt (e := (.iconst 1, 1, 0, 0, 0)) gt205 rfl) (by decide) rfl
set_option maxRecDepth 100000 in
theorem u205_1032 : gR (gcl d) X 205 1032 [l0, l1, l2, l3] (.int y :: .int x :: st) sh M kc ks Q = gR (gcl d) X 205 1033 [l0, l1, l2, l3] (.int (x + y) :: st) sh M kc ks Q := x_iadd (gcl_m d) (gopt (e := (.iadd, 1, 0, 0, 0)) gt205 rfl) rfl
set_option maxRecDepth 100000 in
theorem u205_1033 : gR (gcl d) X 205 1033 [l0, l1, l2, l3] (.int x :: .float fk :: st) sh M kc ks Q = (vp_in x (gro 205 X fk).1 ∧ gR (gcl d) X 205 1034 [l0, l1, l2, l3] (.int ((gro 205 X fk).2 x.toNatClampNeg) :: st) sh M kc ks Q) := x_iaro (gcl_m d) (gopt (e := (.iaload, 1, 0, 0, 0)) gt205 rfl) rfl
set_option maxRecDepth 100000 in
theorem u205_1034 : gR (gcl d) X 205 1034 [l0, l1, l2, l3] (v1 :: .ref o :: st) sh M kc ks Q = ((gci sh o = some 6 ∧ st.length ≤ 4 ∧ gro1 205 kc ks 0 0) ∧ gcl d 99 [.ref o, v1] sh M fun v sh2 M2 => gR (gcl d) X 205 1037 [l0, l1, l2, l3] (v ++ st) sh2 M2 kc ks Q) := x_virtk (gcl_m d) (gopt (e := (.invokevirtual 115, 3, 99, 1, 0)) gt205 rfl) rfl rfl rfl rfl rfl
set_option maxRecDepth 100000 in
theorem u205_1037 : gR (gcl d) X 205 1037 [l0, l1, some (.ref o), l3] st sh M kc ks Q = gR (gcl d) X 205 1038 [l0, l1, some (.ref o), l3] (.ref o :: st) sh M kc ks Q := x_aload_n (gcl_m d) (gopt (e := (.aload_n 2, 1, 0, 0, 0)) gt205 rfl) rfl rfl
set_option maxRecDepth 100000 in
theorem u205_1037f : gR (gcl d) X 205 1037 [l0, l1, some (.float fk), l3] st sh M kc ks Q = gR (gcl d) X 205 1038 [l0, l1, some (.float fk), l3] (.float fk :: st) sh M kc ks Q := x_aload_nf (gcl_m d) (gopt (e := (.aload_n 2, 1, 0, 0, 0)) gt205 rfl) rfl rfl
set_option maxRecDepth 100000 in
theorem u205_1038 : gR (gcl d) X 205 1038 [some (.ref o), l1, l2, l3] st sh M kc ks Q = gR (gcl d) X 205 1039 [some (.ref o), l1, l2, l3] (.ref o :: st) sh M kc ks Q := x_aload_n (gcl_m d) (gopt (e := (.aload_n 0, 1, 0, 0, 0)) gt205 rfl) rfl rfl
set_option maxRecDepth 100000 in
theorem u205_1038f : gR (gcl d) X 205 1038 [some (.float fk), l1, l2, l3] st sh M kc ks Q = gR (gcl d) X 205 1039 [some (.float fk), l1, l2, l3] (.float fk :: st) sh M kc ks Q := x_aload_nf (gcl_m d) (gopt (e := (.aload_n 0, 1, 0, 0, 0)) gt205 rfl) rfl rfl
set_option maxRecDepth 100000 in
theorem u205_1039 : gR (gcl d) X 205 1039 [l0, l1, l2, some (.int x)] st sh M kc ks Q = gR (gcl d) X 205 1040 [l0, l1, l2, some (.int x)] (.int x :: st) sh M kc ks Q := x_iload_n (gcl_m d) (gopt (e := (.iload_n 3, 1, 0, 0, 0)) gt205 rfl) rfl rfl
set_option maxRecDepth 100000 in
theorem u205_1040 : gR (gcl d) X 205 1040 [l0, l1, l2, l3] st sh M kc ks Q = gR (gcl d) X 205 1041 [l0, l1, l2, l3] (.int (nI 1) :: st) sh M kc ks Q := x_iconst (gcl_m d) (gopt (e := (.iconst 1, 1, 0, 0, 0)) gt205 rfl) (by decide) rfl
set_option maxRecDepth 100000 in
theorem u205_1041 : gR (gcl d) X 205 1041 [l0, l1, l2, l3] (.int y :: .int x :: st) sh M kc ks Q = gR (gcl d) X 205 1042 [l0, l1, l2, l3] (.int (x + y) :: st) sh M kc ks Q := x_iadd (gcl_m d) (gopt (e := (.iadd, 1, 0, 0, 0)) gt205 rfl) rfl
set_option maxRecDepth 100000 in
theorem u205_1042 : gR (gcl d) X 205 1042 [l0, l1, l2, l3] (.int x :: .float fk :: st) sh M kc ks Q = (vp_in x (gro 205 X fk).1 ∧ gR (gcl d) X 205 1043 [l0, l1, l2, l3] (.int ((gro 205 X fk).2 x.toNatClampNeg) :: st) sh M kc ks Q) := x_iaro (gcl_m d) (gopt (e := (.iaload, 1, 0, 0, 0)) gt205 rfl) rfl
set_option maxRecDepth 100000 in
theorem u205_1043 : gR (gcl d) X 205 1043 [l0, l1, l2, l3] (v1 :: .ref o :: st) sh M kc ks Q = ((gci sh o = some 7 ∧ st.length ≤ 4 ∧ gro1 205 kc ks 0 0) ∧ gcl d 184 [.ref o, v1] sh M fun v sh2 M2 => gR (gcl d) X 205 1046 [l0, l1, l2, l3] (v ++ st) sh2 M2 kc ks Q) := x_virtk (gcl_m d) (gopt (e := (.invokevirtual 118, 3, 184, 1, 0)) gt205 rfl) rfl rfl rfl rfl rfl
set_option maxRecDepth 100000 in
theorem u205_1046 : gR (gcl d) X 205 1046 [l0, l1, l2, l3] (.int y :: .int x :: st) sh M kc ks Q = ((x = y → gR (gcl d) X 205 1222 [l0, l1, l2, l3] st sh M kc ks Q) ∧ (¬ x = y → gR (gcl d) X 205 1049 [l0, l1, l2, l3] st sh M kc ks Q)) := x_icmp_eq (gcl_m d) (gopt (e := (.if_icmp .eq 176, 3, 1222, 0, 0)) gt205 rfl) rfl
set_option maxRecDepth 100000 in
theorem u205_1049 : gR (gcl d) X 205 1049 [l0, l1, l2, l3] st sh M kc ks Q = gR (gcl d) X 205 1050 [l0, l1, l2, l3] (.int (nI 0) :: st) sh M kc ks Q := x_iconst (gcl_m d) (gopt (e := (.iconst 0, 1, 0, 0, 0)) gt205 rfl) (by decide) rfl
set_option maxRecDepth 100000 in
theorem u205_1050 : gR (gcl d) X 205 1050 [l0, l1, l2, l3] [.int (nI 1)] sh M kc ks Q = (gfin 205 kc ks ∧ Q [.int (nI 1)] sh M) := x_retk (gcl_m d) (gopt (e := (.ireturn, 1, 0, 0, 0)) gt205 rfl) (Or.inr ⟨rfl, Or.inr (by decide)⟩)
set_option maxRecDepth 100000 in
theorem u205_1051 : gR (gcl d) X 205 1051 [l0, some (.ref o), l2, l3] st sh M kc ks Q = gR (gcl d) X 205 1052 [l0, some (.ref o), l2, l3] (.ref o :: st) sh M kc ks Q := x_aload_n (gcl_m d) (gopt (e := (.aload_n 1, 1, 0, 0, 0)) gt205 rfl) rfl rfl
set_option maxRecDepth 100000 in
theorem u205_1051f : gR (gcl d) X 205 1051 [l0, some (.float fk), l2, l3] st sh M kc ks Q = gR (gcl d) X 205 1052 [l0, some (.float fk), l2, l3] (.float fk :: st) sh M kc ks Q := x_aload_nf (gcl_m d) (gopt (e := (.aload_n 1, 1, 0, 0, 0)) gt205 rfl) rfl rfl
set_option maxRecDepth 100000 in
theorem u205_1052 : gR (gcl d) X 205 1052 [some (.ref o), l1, l2, l3] st sh M kc ks Q = gR (gcl d) X 205 1053 [some (.ref o), l1, l2, l3] (.ref o :: st) sh M kc ks Q := x_aload_n (gcl_m d) (gopt (e := (.aload_n 0, 1, 0, 0, 0)) gt205 rfl) rfl rfl
set_option maxRecDepth 100000 in
theorem u205_1052f : gR (gcl d) X 205 1052 [some (.float fk), l1, l2, l3] st sh M kc ks Q = gR (gcl d) X 205 1053 [some (.float fk), l1, l2, l3] (.float fk :: st) sh M kc ks Q := x_aload_nf (gcl_m d) (gopt (e := (.aload_n 0, 1, 0, 0, 0)) gt205 rfl) rfl rfl
set_option maxRecDepth 100000 in
theorem u205_1053 : gR (gcl d) X 205 1053 [l0, l1, l2, some (.int x)] st sh M kc ks Q = gR (gcl d) X 205 1054 [l0, l1, l2, some (.int x)] (.int x :: st) sh M kc ks Q := x_iload_n (gcl_m d) (gopt (e := (.iload_n 3, 1, 0, 0, 0)) gt205 rfl) rfl rfl
set_option maxRecDepth 100000 in
theorem u205_1054 : gR (gcl d) X 205 1054 [l0, l1, l2, l3] st sh M kc ks Q = gR (gcl d) X 205 1055 [l0, l1, l2, l3] (.int (nI 1) :: st) sh M kc ks Q := x_iconst (gcl_m d) (gopt (e := (.iconst 1, 1, 0, 0, 0)) gt205 rfl) (by decide) rfl
set_option maxRecDepth 100000 in
theorem u205_1055 : gR (gcl d) X 205 1055 [l0, l1, l2, l3] (.int y :: .int x :: st) sh M kc ks Q = gR (gcl d) X 205 1056 [l0, l1, l2, l3] (.int (x + y) :: st) sh M kc ks Q := x_iadd (gcl_m d) (gopt (e := (.iadd, 1, 0, 0, 0)) gt205 rfl) rfl
set_option maxRecDepth 100000 in
theorem u205_1056 : gR (gcl d) X 205 1056 [l0, l1, l2, l3] (.int x :: .float fk :: st) sh M kc ks Q = (vp_in x (gro 205 X fk).1 ∧ gR (gcl d) X 205 1057 [l0, l1, l2, l3] (.int ((gro 205 X fk).2 x.toNatClampNeg) :: st) sh M kc ks Q) := x_iaro (gcl_m d) (gopt (e := (.iaload, 1, 0, 0, 0)) gt205 rfl) rfl
set_option maxRecDepth 100000 in
theorem u205_1057 : gR (gcl d) X 205 1057 [l0, l1, l2, l3] (v1 :: .ref o :: st) sh M kc ks Q = ((gci sh o = some 6 ∧ st.length ≤ 4 ∧ gro1 205 kc ks 0 0) ∧ gcl d 100 [.ref o, v1] sh M fun v sh2 M2 => gR (gcl d) X 205 1060 [l0, l1, l2, l3] (v ++ st) sh2 M2 kc ks Q) := x_virtk (gcl_m d) (gopt (e := (.invokevirtual 119, 3, 100, 1, 0)) gt205 rfl) rfl rfl rfl rfl rfl
set_option maxRecDepth 100000 in
theorem u205_1060 : gR (gcl d) X 205 1060 [l0, l1, some (.ref o), l3] st sh M kc ks Q = gR (gcl d) X 205 1061 [l0, l1, some (.ref o), l3] (.ref o :: st) sh M kc ks Q := x_aload_n (gcl_m d) (gopt (e := (.aload_n 2, 1, 0, 0, 0)) gt205 rfl) rfl rfl
set_option maxRecDepth 100000 in
theorem u205_1060f : gR (gcl d) X 205 1060 [l0, l1, some (.float fk), l3] st sh M kc ks Q = gR (gcl d) X 205 1061 [l0, l1, some (.float fk), l3] (.float fk :: st) sh M kc ks Q := x_aload_nf (gcl_m d) (gopt (e := (.aload_n 2, 1, 0, 0, 0)) gt205 rfl) rfl rfl
set_option maxRecDepth 100000 in
theorem u205_1061 : gR (gcl d) X 205 1061 [some (.ref o), l1, l2, l3] st sh M kc ks Q = gR (gcl d) X 205 1062 [some (.ref o), l1, l2, l3] (.ref o :: st) sh M kc ks Q := x_aload_n (gcl_m d) (gopt (e := (.aload_n 0, 1, 0, 0, 0)) gt205 rfl) rfl rfl
set_option maxRecDepth 100000 in
theorem u205_1061f : gR (gcl d) X 205 1061 [some (.float fk), l1, l2, l3] st sh M kc ks Q = gR (gcl d) X 205 1062 [some (.float fk), l1, l2, l3] (.float fk :: st) sh M kc ks Q := x_aload_nf (gcl_m d) (gopt (e := (.aload_n 0, 1, 0, 0, 0)) gt205 rfl) rfl rfl
set_option maxRecDepth 100000 in
theorem u205_1062 : gR (gcl d) X 205 1062 [l0, l1, l2, some (.int x)] st sh M kc ks Q = gR (gcl d) X 205 1063 [l0, l1, l2, some (.int x)] (.int x :: st) sh M kc ks Q := x_iload_n (gcl_m d) (gopt (e := (.iload_n 3, 1, 0, 0, 0)) gt205 rfl) rfl rfl
set_option maxRecDepth 100000 in
theorem u205_1063 : gR (gcl d) X 205 1063 [l0, l1, l2, l3] st sh M kc ks Q = gR (gcl d) X 205 1064 [l0, l1, l2, l3] (.int (nI 1) :: st) sh M kc ks Q := x_iconst (gcl_m d) (gopt (e := (.iconst 1, 1, 0, 0, 0)) gt205 rfl) (by decide) rfl
set_option maxRecDepth 100000 in
theorem u205_1064 : gR (gcl d) X 205 1064 [l0, l1, l2, l3] (.int y :: .int x :: st) sh M kc ks Q = gR (gcl d) X 205 1065 [l0, l1, l2, l3] (.int (x + y) :: st) sh M kc ks Q := x_iadd (gcl_m d) (gopt (e := (.iadd, 1, 0, 0, 0)) gt205 rfl) rfl
set_option maxRecDepth 100000 in
theorem u205_1065 : gR (gcl d) X 205 1065 [l0, l1, l2, l3] (.int x :: .float fk :: st) sh M kc ks Q = (vp_in x (gro 205 X fk).1 ∧ gR (gcl d) X 205 1066 [l0, l1, l2, l3] (.int ((gro 205 X fk).2 x.toNatClampNeg) :: st) sh M kc ks Q) := x_iaro (gcl_m d) (gopt (e := (.iaload, 1, 0, 0, 0)) gt205 rfl) rfl
set_option maxRecDepth 100000 in
theorem u205_1066 : gR (gcl d) X 205 1066 [l0, l1, l2, l3] (v1 :: .ref o :: st) sh M kc ks Q = ((gci sh o = some 7 ∧ st.length ≤ 4 ∧ gro1 205 kc ks 0 0) ∧ gcl d 185 [.ref o, v1] sh M fun v sh2 M2 => gR (gcl d) X 205 1069 [l0, l1, l2, l3] (v ++ st) sh2 M2 kc ks Q) := x_virtk (gcl_m d) (gopt (e := (.invokevirtual 122, 3, 185, 1, 0)) gt205 rfl) rfl rfl rfl rfl rfl
set_option maxRecDepth 100000 in
theorem u205_1069 : gR (gcl d) X 205 1069 [l0, l1, l2, l3] (.int y :: .int x :: st) sh M kc ks Q = ((x = y → gR (gcl d) X 205 1222 [l0, l1, l2, l3] st sh M kc ks Q) ∧ (¬ x = y → gR (gcl d) X 205 1072 [l0, l1, l2, l3] st sh M kc ks Q)) := x_icmp_eq (gcl_m d) (gopt (e := (.if_icmp .eq 153, 3, 1222, 0, 0)) gt205 rfl) rfl
set_option maxRecDepth 100000 in
theorem u205_1072 : gR (gcl d) X 205 1072 [l0, l1, l2, l3] st sh M kc ks Q = gR (gcl d) X 205 1073 [l0, l1, l2, l3] (.int (nI 0) :: st) sh M kc ks Q := x_iconst (gcl_m d) (gopt (e := (.iconst 0, 1, 0, 0, 0)) gt205 rfl) (by decide) rfl
set_option maxRecDepth 100000 in
theorem u205_1073 : gR (gcl d) X 205 1073 [l0, l1, l2, l3] [.int (nI 1)] sh M kc ks Q = (gfin 205 kc ks ∧ Q [.int (nI 1)] sh M) := x_retk (gcl_m d) (gopt (e := (.ireturn, 1, 0, 0, 0)) gt205 rfl) (Or.inr ⟨rfl, Or.inr (by decide)⟩)
set_option maxRecDepth 100000 in
theorem u205_1074 : gR (gcl d) X 205 1074 [l0, some (.ref o), l2, l3] st sh M kc ks Q = gR (gcl d) X 205 1075 [l0, some (.ref o), l2, l3] (.ref o :: st) sh M kc ks Q := x_aload_n (gcl_m d) (gopt (e := (.aload_n 1, 1, 0, 0, 0)) gt205 rfl) rfl rfl
set_option maxRecDepth 100000 in
theorem u205_1074f : gR (gcl d) X 205 1074 [l0, some (.float fk), l2, l3] st sh M kc ks Q = gR (gcl d) X 205 1075 [l0, some (.float fk), l2, l3] (.float fk :: st) sh M kc ks Q := x_aload_nf (gcl_m d) (gopt (e := (.aload_n 1, 1, 0, 0, 0)) gt205 rfl) rfl rfl
set_option maxRecDepth 100000 in
theorem u205_1075 : gR (gcl d) X 205 1075 [some (.ref o), l1, l2, l3] st sh M kc ks Q = gR (gcl d) X 205 1076 [some (.ref o), l1, l2, l3] (.ref o :: st) sh M kc ks Q := x_aload_n (gcl_m d) (gopt (e := (.aload_n 0, 1, 0, 0, 0)) gt205 rfl) rfl rfl
set_option maxRecDepth 100000 in
theorem u205_1075f : gR (gcl d) X 205 1075 [some (.float fk), l1, l2, l3] st sh M kc ks Q = gR (gcl d) X 205 1076 [some (.float fk), l1, l2, l3] (.float fk :: st) sh M kc ks Q := x_aload_nf (gcl_m d) (gopt (e := (.aload_n 0, 1, 0, 0, 0)) gt205 rfl) rfl rfl
set_option maxRecDepth 100000 in
theorem u205_1076 : gR (gcl d) X 205 1076 [l0, l1, l2, some (.int x)] st sh M kc ks Q = gR (gcl d) X 205 1077 [l0, l1, l2, some (.int x)] (.int x :: st) sh M kc ks Q := x_iload_n (gcl_m d) (gopt (e := (.iload_n 3, 1, 0, 0, 0)) gt205 rfl) rfl rfl
set_option maxRecDepth 100000 in
theorem u205_1077 : gR (gcl d) X 205 1077 [l0, l1, l2, l3] st sh M kc ks Q = gR (gcl d) X 205 1078 [l0, l1, l2, l3] (.int (nI 1) :: st) sh M kc ks Q := x_iconst (gcl_m d) (gopt (e := (.iconst 1, 1, 0, 0, 0)) gt205 rfl) (by decide) rfl
set_option maxRecDepth 100000 in
theorem u205_1078 : gR (gcl d) X 205 1078 [l0, l1, l2, l3] (.int y :: .int x :: st) sh M kc ks Q = gR (gcl d) X 205 1079 [l0, l1, l2, l3] (.int (x + y) :: st) sh M kc ks Q := x_iadd (gcl_m d) (gopt (e := (.iadd, 1, 0, 0, 0)) gt205 rfl) rfl
set_option maxRecDepth 100000 in
theorem u205_1079 : gR (gcl d) X 205 1079 [l0, l1, l2, l3] (.int x :: .float fk :: st) sh M kc ks Q = (vp_in x (gro 205 X fk).1 ∧ gR (gcl d) X 205 1080 [l0, l1, l2, l3] (.int ((gro 205 X fk).2 x.toNatClampNeg) :: st) sh M kc ks Q) := x_iaro (gcl_m d) (gopt (e := (.iaload, 1, 0, 0, 0)) gt205 rfl) rfl
set_option maxRecDepth 100000 in
theorem u205_1080 : gR (gcl d) X 205 1080 [l0, l1, l2, l3] (v1 :: .ref o :: st) sh M kc ks Q = ((gci sh o = some 6 ∧ st.length ≤ 4 ∧ gro1 205 kc ks 0 0) ∧ gcl d 101 [.ref o, v1] sh M fun v sh2 M2 => gR (gcl d) X 205 1083 [l0, l1, l2, l3] (v ++ st) sh2 M2 kc ks Q) := x_virtk (gcl_m d) (gopt (e := (.invokevirtual 123, 3, 101, 1, 0)) gt205 rfl) rfl rfl rfl rfl rfl
set_option maxRecDepth 100000 in
theorem u205_1083 : gR (gcl d) X 205 1083 [l0, l1, some (.ref o), l3] st sh M kc ks Q = gR (gcl d) X 205 1084 [l0, l1, some (.ref o), l3] (.ref o :: st) sh M kc ks Q := x_aload_n (gcl_m d) (gopt (e := (.aload_n 2, 1, 0, 0, 0)) gt205 rfl) rfl rfl
set_option maxRecDepth 100000 in
theorem u205_1083f : gR (gcl d) X 205 1083 [l0, l1, some (.float fk), l3] st sh M kc ks Q = gR (gcl d) X 205 1084 [l0, l1, some (.float fk), l3] (.float fk :: st) sh M kc ks Q := x_aload_nf (gcl_m d) (gopt (e := (.aload_n 2, 1, 0, 0, 0)) gt205 rfl) rfl rfl
set_option maxRecDepth 100000 in
theorem u205_1084 : gR (gcl d) X 205 1084 [some (.ref o), l1, l2, l3] st sh M kc ks Q = gR (gcl d) X 205 1085 [some (.ref o), l1, l2, l3] (.ref o :: st) sh M kc ks Q := x_aload_n (gcl_m d) (gopt (e := (.aload_n 0, 1, 0, 0, 0)) gt205 rfl) rfl rfl
set_option maxRecDepth 100000 in
theorem u205_1084f : gR (gcl d) X 205 1084 [some (.float fk), l1, l2, l3] st sh M kc ks Q = gR (gcl d) X 205 1085 [some (.float fk), l1, l2, l3] (.float fk :: st) sh M kc ks Q := x_aload_nf (gcl_m d) (gopt (e := (.aload_n 0, 1, 0, 0, 0)) gt205 rfl) rfl rfl
set_option maxRecDepth 100000 in
theorem u205_1085 : gR (gcl d) X 205 1085 [l0, l1, l2, some (.int x)] st sh M kc ks Q = gR (gcl d) X 205 1086 [l0, l1, l2, some (.int x)] (.int x :: st) sh M kc ks Q := x_iload_n (gcl_m d) (gopt (e := (.iload_n 3, 1, 0, 0, 0)) gt205 rfl) rfl rfl
set_option maxRecDepth 100000 in
theorem u205_1086 : gR (gcl d) X 205 1086 [l0, l1, l2, l3] st sh M kc ks Q = gR (gcl d) X 205 1087 [l0, l1, l2, l3] (.int (nI 1) :: st) sh M kc ks Q := x_iconst (gcl_m d) (gopt (e := (.iconst 1, 1, 0, 0, 0)) gt205 rfl) (by decide) rfl
set_option maxRecDepth 100000 in
theorem u205_1087 : gR (gcl d) X 205 1087 [l0, l1, l2, l3] (.int y :: .int x :: st) sh M kc ks Q = gR (gcl d) X 205 1088 [l0, l1, l2, l3] (.int (x + y) :: st) sh M kc ks Q := x_iadd (gcl_m d) (gopt (e := (.iadd, 1, 0, 0, 0)) gt205 rfl) rfl
set_option maxRecDepth 100000 in
theorem u205_1088 : gR (gcl d) X 205 1088 [l0, l1, l2, l3] (.int x :: .float fk :: st) sh M kc ks Q = (vp_in x (gro 205 X fk).1 ∧ gR (gcl d) X 205 1089 [l0, l1, l2, l3] (.int ((gro 205 X fk).2 x.toNatClampNeg) :: st) sh M kc ks Q) := x_iaro (gcl_m d) (gopt (e := (.iaload, 1, 0, 0, 0)) gt205 rfl) rfl
set_option maxRecDepth 100000 in
theorem u205_1089 : gR (gcl d) X 205 1089 [l0, l1, l2, l3] (v1 :: .ref o :: st) sh M kc ks Q = ((gci sh o = some 7 ∧ st.length ≤ 4 ∧ gro1 205 kc ks 0 0) ∧ gcl d 186 [.ref o, v1] sh M fun v sh2 M2 => gR (gcl d) X 205 1092 [l0, l1, l2, l3] (v ++ st) sh2 M2 kc ks Q) := x_virtk (gcl_m d) (gopt (e := (.invokevirtual 126, 3, 186, 1, 0)) gt205 rfl) rfl rfl rfl rfl rfl
set_option maxRecDepth 100000 in
theorem u205_1092 : gR (gcl d) X 205 1092 [l0, l1, l2, l3] (.int y :: .int x :: st) sh M kc ks Q = ((x = y → gR (gcl d) X 205 1222 [l0, l1, l2, l3] st sh M kc ks Q) ∧ (¬ x = y → gR (gcl d) X 205 1095 [l0, l1, l2, l3] st sh M kc ks Q)) := x_icmp_eq (gcl_m d) (gopt (e := (.if_icmp .eq 130, 3, 1222, 0, 0)) gt205 rfl) rfl
set_option maxRecDepth 100000 in
theorem u205_1095 : gR (gcl d) X 205 1095 [l0, l1, l2, l3] st sh M kc ks Q = gR (gcl d) X 205 1096 [l0, l1, l2, l3] (.int (nI 0) :: st) sh M kc ks Q := x_iconst (gcl_m d) (gopt (e := (.iconst 0, 1, 0, 0, 0)) gt205 rfl) (by decide) rfl
set_option maxRecDepth 100000 in
theorem u205_1096 : gR (gcl d) X 205 1096 [l0, l1, l2, l3] [.int (nI 1)] sh M kc ks Q = (gfin 205 kc ks ∧ Q [.int (nI 1)] sh M) := x_retk (gcl_m d) (gopt (e := (.ireturn, 1, 0, 0, 0)) gt205 rfl) (Or.inr ⟨rfl, Or.inr (by decide)⟩)
set_option maxRecDepth 100000 in
theorem u205_1097 : gR (gcl d) X 205 1097 [l0, some (.ref o), l2, l3] st sh M kc ks Q = gR (gcl d) X 205 1098 [l0, some (.ref o), l2, l3] (.ref o :: st) sh M kc ks Q := x_aload_n (gcl_m d) (gopt (e := (.aload_n 1, 1, 0, 0, 0)) gt205 rfl) rfl rfl
set_option maxRecDepth 100000 in
theorem u205_1097f : gR (gcl d) X 205 1097 [l0, some (.float fk), l2, l3] st sh M kc ks Q = gR (gcl d) X 205 1098 [l0, some (.float fk), l2, l3] (.float fk :: st) sh M kc ks Q := x_aload_nf (gcl_m d) (gopt (e := (.aload_n 1, 1, 0, 0, 0)) gt205 rfl) rfl rfl
set_option maxRecDepth 100000 in
theorem u205_1098 : gR (gcl d) X 205 1098 [some (.ref o), l1, l2, l3] st sh M kc ks Q = gR (gcl d) X 205 1099 [some (.ref o), l1, l2, l3] (.ref o :: st) sh M kc ks Q := x_aload_n (gcl_m d) (gopt (e := (.aload_n 0, 1, 0, 0, 0)) gt205 rfl) rfl rfl
set_option maxRecDepth 100000 in
theorem u205_1098f : gR (gcl d) X 205 1098 [some (.float fk), l1, l2, l3] st sh M kc ks Q = gR (gcl d) X 205 1099 [some (.float fk), l1, l2, l3] (.float fk :: st) sh M kc ks Q := x_aload_nf (gcl_m d) (gopt (e := (.aload_n 0, 1, 0, 0, 0)) gt205 rfl) rfl rfl
set_option maxRecDepth 100000 in
theorem u205_1099 : gR (gcl d) X 205 1099 [l0, l1, l2, some (.int x)] st sh M kc ks Q = gR (gcl d) X 205 1100 [l0, l1, l2, some (.int x)] (.int x :: st) sh M kc ks Q := x_iload_n (gcl_m d) (gopt (e := (.iload_n 3, 1, 0, 0, 0)) gt205 rfl) rfl rfl
set_option maxRecDepth 100000 in
theorem u205_1100 : gR (gcl d) X 205 1100 [l0, l1, l2, l3] st sh M kc ks Q = gR (gcl d) X 205 1101 [l0, l1, l2, l3] (.int (nI 1) :: st) sh M kc ks Q := x_iconst (gcl_m d) (gopt (e := (.iconst 1, 1, 0, 0, 0)) gt205 rfl) (by decide) rfl
set_option maxRecDepth 100000 in
theorem u205_1101 : gR (gcl d) X 205 1101 [l0, l1, l2, l3] (.int y :: .int x :: st) sh M kc ks Q = gR (gcl d) X 205 1102 [l0, l1, l2, l3] (.int (x + y) :: st) sh M kc ks Q := x_iadd (gcl_m d) (gopt (e := (.iadd, 1, 0, 0, 0)) gt205 rfl) rfl
set_option maxRecDepth 100000 in
theorem u205_1102 : gR (gcl d) X 205 1102 [l0, l1, l2, l3] (.int x :: .float fk :: st) sh M kc ks Q = (vp_in x (gro 205 X fk).1 ∧ gR (gcl d) X 205 1103 [l0, l1, l2, l3] (.int ((gro 205 X fk).2 x.toNatClampNeg) :: st) sh M kc ks Q) := x_iaro (gcl_m d) (gopt (e := (.iaload, 1, 0, 0, 0)) gt205 rfl) rfl
set_option maxRecDepth 100000 in
theorem u205_1103 : gR (gcl d) X 205 1103 [some (.ref o), l1, l2, l3] st sh M kc ks Q = gR (gcl d) X 205 1104 [some (.ref o), l1, l2, l3] (.ref o :: st) sh M kc ks Q := x_aload_n (gcl_m d) (gopt (e := (.aload_n 0, 1, 0, 0, 0)) gt205 rfl) rfl rfl
set_option maxRecDepth 100000 in
theorem u205_1103f : gR (gcl d) X 205 1103 [some (.float fk), l1, l2, l3] st sh M kc ks Q = gR (gcl d) X 205 1104 [some (.float fk), l1, l2, l3] (.float fk :: st) sh M kc ks Q := x_aload_nf (gcl_m d) (gopt (e := (.aload_n 0, 1, 0, 0, 0)) gt205 rfl) rfl rfl
set_option maxRecDepth 100000 in
theorem u205_1104 : gR (gcl d) X 205 1104 [l0, l1, l2, some (.int x)] st sh M kc ks Q = gR (gcl d) X 205 1105 [l0, l1, l2, some (.int x)] (.int x :: st) sh M kc ks Q := x_iload_n (gcl_m d) (gopt (e := (.iload_n 3, 1, 0, 0, 0)) gt205 rfl) rfl rfl
set_option maxRecDepth 100000 in
theorem u205_1105 : gR (gcl d) X 205 1105 [l0, l1, l2, l3] st sh M kc ks Q = gR (gcl d) X 205 1106 [l0, l1, l2, l3] (.int (nI 2) :: st) sh M kc ks Q := x_iconst (gcl_m d) (gopt (e := (.iconst 2, 1, 0, 0, 0)) gt205 rfl) (by decide) rfl
set_option maxRecDepth 100000 in
theorem u205_1106 : gR (gcl d) X 205 1106 [l0, l1, l2, l3] (.int y :: .int x :: st) sh M kc ks Q = gR (gcl d) X 205 1107 [l0, l1, l2, l3] (.int (x + y) :: st) sh M kc ks Q := x_iadd (gcl_m d) (gopt (e := (.iadd, 1, 0, 0, 0)) gt205 rfl) rfl
set_option maxRecDepth 100000 in
theorem u205_1107 : gR (gcl d) X 205 1107 [l0, l1, l2, l3] (.int x :: .float fk :: st) sh M kc ks Q = (vp_in x (gro 205 X fk).1 ∧ gR (gcl d) X 205 1108 [l0, l1, l2, l3] (.int ((gro 205 X fk).2 x.toNatClampNeg) :: st) sh M kc ks Q) := x_iaro (gcl_m d) (gopt (e := (.iaload, 1, 0, 0, 0)) gt205 rfl) rfl
set_option maxRecDepth 100000 in
theorem u205_1108 : gR (gcl d) X 205 1108 [l0, l1, l2, l3] (v2 :: v1 :: .ref o :: st) sh M kc ks Q = ((gci sh o = some 6 ∧ st.length ≤ 4 ∧ gro1 205 kc ks 0 0) ∧ gcl d 102 [.ref o, v1, v2] sh M fun v sh2 M2 => gR (gcl d) X 205 1111 [l0, l1, l2, l3] (v ++ st) sh2 M2 kc ks Q) := x_virtk (gcl_m d) (gopt (e := (.invokevirtual 127, 3, 102, 2, 0)) gt205 rfl) rfl rfl rfl rfl rfl
set_option maxRecDepth 100000 in
theorem u205_1111 : gR (gcl d) X 205 1111 [l0, l1, some (.ref o), l3] st sh M kc ks Q = gR (gcl d) X 205 1112 [l0, l1, some (.ref o), l3] (.ref o :: st) sh M kc ks Q := x_aload_n (gcl_m d) (gopt (e := (.aload_n 2, 1, 0, 0, 0)) gt205 rfl) rfl rfl
set_option maxRecDepth 100000 in
theorem u205_1111f : gR (gcl d) X 205 1111 [l0, l1, some (.float fk), l3] st sh M kc ks Q = gR (gcl d) X 205 1112 [l0, l1, some (.float fk), l3] (.float fk :: st) sh M kc ks Q := x_aload_nf (gcl_m d) (gopt (e := (.aload_n 2, 1, 0, 0, 0)) gt205 rfl) rfl rfl
set_option maxRecDepth 100000 in
theorem u205_1112 : gR (gcl d) X 205 1112 [some (.ref o), l1, l2, l3] st sh M kc ks Q = gR (gcl d) X 205 1113 [some (.ref o), l1, l2, l3] (.ref o :: st) sh M kc ks Q := x_aload_n (gcl_m d) (gopt (e := (.aload_n 0, 1, 0, 0, 0)) gt205 rfl) rfl rfl
set_option maxRecDepth 100000 in
theorem u205_1112f : gR (gcl d) X 205 1112 [some (.float fk), l1, l2, l3] st sh M kc ks Q = gR (gcl d) X 205 1113 [some (.float fk), l1, l2, l3] (.float fk :: st) sh M kc ks Q := x_aload_nf (gcl_m d) (gopt (e := (.aload_n 0, 1, 0, 0, 0)) gt205 rfl) rfl rfl
set_option maxRecDepth 100000 in
theorem u205_1113 : gR (gcl d) X 205 1113 [l0, l1, l2, some (.int x)] st sh M kc ks Q = gR (gcl d) X 205 1114 [l0, l1, l2, some (.int x)] (.int x :: st) sh M kc ks Q := x_iload_n (gcl_m d) (gopt (e := (.iload_n 3, 1, 0, 0, 0)) gt205 rfl) rfl rfl
set_option maxRecDepth 100000 in
theorem u205_1114 : gR (gcl d) X 205 1114 [l0, l1, l2, l3] st sh M kc ks Q = gR (gcl d) X 205 1115 [l0, l1, l2, l3] (.int (nI 1) :: st) sh M kc ks Q := x_iconst (gcl_m d) (gopt (e := (.iconst 1, 1, 0, 0, 0)) gt205 rfl) (by decide) rfl
set_option maxRecDepth 100000 in
theorem u205_1115 : gR (gcl d) X 205 1115 [l0, l1, l2, l3] (.int y :: .int x :: st) sh M kc ks Q = gR (gcl d) X 205 1116 [l0, l1, l2, l3] (.int (x + y) :: st) sh M kc ks Q := x_iadd (gcl_m d) (gopt (e := (.iadd, 1, 0, 0, 0)) gt205 rfl) rfl
set_option maxRecDepth 100000 in
theorem u205_1116 : gR (gcl d) X 205 1116 [l0, l1, l2, l3] (.int x :: .float fk :: st) sh M kc ks Q = (vp_in x (gro 205 X fk).1 ∧ gR (gcl d) X 205 1117 [l0, l1, l2, l3] (.int ((gro 205 X fk).2 x.toNatClampNeg) :: st) sh M kc ks Q) := x_iaro (gcl_m d) (gopt (e := (.iaload, 1, 0, 0, 0)) gt205 rfl) rfl
set_option maxRecDepth 100000 in
theorem u205_1117 : gR (gcl d) X 205 1117 [some (.ref o), l1, l2, l3] st sh M kc ks Q = gR (gcl d) X 205 1118 [some (.ref o), l1, l2, l3] (.ref o :: st) sh M kc ks Q := x_aload_n (gcl_m d) (gopt (e := (.aload_n 0, 1, 0, 0, 0)) gt205 rfl) rfl rfl
set_option maxRecDepth 100000 in
theorem u205_1117f : gR (gcl d) X 205 1117 [some (.float fk), l1, l2, l3] st sh M kc ks Q = gR (gcl d) X 205 1118 [some (.float fk), l1, l2, l3] (.float fk :: st) sh M kc ks Q := x_aload_nf (gcl_m d) (gopt (e := (.aload_n 0, 1, 0, 0, 0)) gt205 rfl) rfl rfl
set_option maxRecDepth 100000 in
theorem u205_1118 : gR (gcl d) X 205 1118 [l0, l1, l2, some (.int x)] st sh M kc ks Q = gR (gcl d) X 205 1119 [l0, l1, l2, some (.int x)] (.int x :: st) sh M kc ks Q := x_iload_n (gcl_m d) (gopt (e := (.iload_n 3, 1, 0, 0, 0)) gt205 rfl) rfl rfl
set_option maxRecDepth 100000 in
theorem u205_1119 : gR (gcl d) X 205 1119 [l0, l1, l2, l3] st sh M kc ks Q = gR (gcl d) X 205 1120 [l0, l1, l2, l3] (.int (nI 2) :: st) sh M kc ks Q := x_iconst (gcl_m d) (gopt (e := (.iconst 2, 1, 0, 0, 0)) gt205 rfl) (by decide) rfl
set_option maxRecDepth 100000 in
theorem u205_1120 : gR (gcl d) X 205 1120 [l0, l1, l2, l3] (.int y :: .int x :: st) sh M kc ks Q = gR (gcl d) X 205 1121 [l0, l1, l2, l3] (.int (x + y) :: st) sh M kc ks Q := x_iadd (gcl_m d) (gopt (e := (.iadd, 1, 0, 0, 0)) gt205 rfl) rfl
set_option maxRecDepth 100000 in
theorem u205_1121 : gR (gcl d) X 205 1121 [l0, l1, l2, l3] (.int x :: .float fk :: st) sh M kc ks Q = (vp_in x (gro 205 X fk).1 ∧ gR (gcl d) X 205 1122 [l0, l1, l2, l3] (.int ((gro 205 X fk).2 x.toNatClampNeg) :: st) sh M kc ks Q) := x_iaro (gcl_m d) (gopt (e := (.iaload, 1, 0, 0, 0)) gt205 rfl) rfl
set_option maxRecDepth 100000 in
theorem u205_1122 : gR (gcl d) X 205 1122 [l0, l1, l2, l3] (v2 :: v1 :: .ref o :: st) sh M kc ks Q = ((gci sh o = some 7 ∧ st.length ≤ 4 ∧ gro1 205 kc ks 0 0) ∧ gcl d 188 [.ref o, v1, v2] sh M fun v sh2 M2 => gR (gcl d) X 205 1125 [l0, l1, l2, l3] (v ++ st) sh2 M2 kc ks Q) := x_virtk (gcl_m d) (gopt (e := (.invokevirtual 130, 3, 188, 2, 0)) gt205 rfl) rfl rfl rfl rfl rfl
set_option maxRecDepth 100000 in
theorem u205_1125 : gR (gcl d) X 205 1125 [l0, l1, l2, l3] (.int y :: .int x :: st) sh M kc ks Q = ((x = y → gR (gcl d) X 205 1222 [l0, l1, l2, l3] st sh M kc ks Q) ∧ (¬ x = y → gR (gcl d) X 205 1128 [l0, l1, l2, l3] st sh M kc ks Q)) := x_icmp_eq (gcl_m d) (gopt (e := (.if_icmp .eq 97, 3, 1222, 0, 0)) gt205 rfl) rfl
set_option maxRecDepth 100000 in
theorem u205_1128 : gR (gcl d) X 205 1128 [l0, l1, l2, l3] st sh M kc ks Q = gR (gcl d) X 205 1129 [l0, l1, l2, l3] (.int (nI 0) :: st) sh M kc ks Q := x_iconst (gcl_m d) (gopt (e := (.iconst 0, 1, 0, 0, 0)) gt205 rfl) (by decide) rfl
set_option maxRecDepth 100000 in
theorem u205_1129 : gR (gcl d) X 205 1129 [l0, l1, l2, l3] [.int (nI 1)] sh M kc ks Q = (gfin 205 kc ks ∧ Q [.int (nI 1)] sh M) := x_retk (gcl_m d) (gopt (e := (.ireturn, 1, 0, 0, 0)) gt205 rfl) (Or.inr ⟨rfl, Or.inr (by decide)⟩)
set_option maxRecDepth 100000 in
theorem u205_1130 : gR (gcl d) X 205 1130 [l0, some (.ref o), l2, l3] st sh M kc ks Q = gR (gcl d) X 205 1131 [l0, some (.ref o), l2, l3] (.ref o :: st) sh M kc ks Q := x_aload_n (gcl_m d) (gopt (e := (.aload_n 1, 1, 0, 0, 0)) gt205 rfl) rfl rfl
set_option maxRecDepth 100000 in
theorem u205_1130f : gR (gcl d) X 205 1130 [l0, some (.float fk), l2, l3] st sh M kc ks Q = gR (gcl d) X 205 1131 [l0, some (.float fk), l2, l3] (.float fk :: st) sh M kc ks Q := x_aload_nf (gcl_m d) (gopt (e := (.aload_n 1, 1, 0, 0, 0)) gt205 rfl) rfl rfl
set_option maxRecDepth 100000 in
theorem u205_1131 : gR (gcl d) X 205 1131 [some (.ref o), l1, l2, l3] st sh M kc ks Q = gR (gcl d) X 205 1132 [some (.ref o), l1, l2, l3] (.ref o :: st) sh M kc ks Q := x_aload_n (gcl_m d) (gopt (e := (.aload_n 0, 1, 0, 0, 0)) gt205 rfl) rfl rfl
set_option maxRecDepth 100000 in
theorem u205_1131f : gR (gcl d) X 205 1131 [some (.float fk), l1, l2, l3] st sh M kc ks Q = gR (gcl d) X 205 1132 [some (.float fk), l1, l2, l3] (.float fk :: st) sh M kc ks Q := x_aload_nf (gcl_m d) (gopt (e := (.aload_n 0, 1, 0, 0, 0)) gt205 rfl) rfl rfl
set_option maxRecDepth 100000 in
theorem u205_1132 : gR (gcl d) X 205 1132 [l0, l1, l2, some (.int x)] st sh M kc ks Q = gR (gcl d) X 205 1133 [l0, l1, l2, some (.int x)] (.int x :: st) sh M kc ks Q := x_iload_n (gcl_m d) (gopt (e := (.iload_n 3, 1, 0, 0, 0)) gt205 rfl) rfl rfl
set_option maxRecDepth 100000 in
theorem u205_1133 : gR (gcl d) X 205 1133 [l0, l1, l2, l3] st sh M kc ks Q = gR (gcl d) X 205 1134 [l0, l1, l2, l3] (.int (nI 1) :: st) sh M kc ks Q := x_iconst (gcl_m d) (gopt (e := (.iconst 1, 1, 0, 0, 0)) gt205 rfl) (by decide) rfl
set_option maxRecDepth 100000 in
theorem u205_1134 : gR (gcl d) X 205 1134 [l0, l1, l2, l3] (.int y :: .int x :: st) sh M kc ks Q = gR (gcl d) X 205 1135 [l0, l1, l2, l3] (.int (x + y) :: st) sh M kc ks Q := x_iadd (gcl_m d) (gopt (e := (.iadd, 1, 0, 0, 0)) gt205 rfl) rfl
set_option maxRecDepth 100000 in
theorem u205_1135 : gR (gcl d) X 205 1135 [l0, l1, l2, l3] (.int x :: .float fk :: st) sh M kc ks Q = (vp_in x (gro 205 X fk).1 ∧ gR (gcl d) X 205 1136 [l0, l1, l2, l3] (.int ((gro 205 X fk).2 x.toNatClampNeg) :: st) sh M kc ks Q) := x_iaro (gcl_m d) (gopt (e := (.iaload, 1, 0, 0, 0)) gt205 rfl) rfl
set_option maxRecDepth 100000 in
theorem u205_1136 : gR (gcl d) X 205 1136 [some (.ref o), l1, l2, l3] st sh M kc ks Q = gR (gcl d) X 205 1137 [some (.ref o), l1, l2, l3] (.ref o :: st) sh M kc ks Q := x_aload_n (gcl_m d) (gopt (e := (.aload_n 0, 1, 0, 0, 0)) gt205 rfl) rfl rfl
set_option maxRecDepth 100000 in
theorem u205_1136f : gR (gcl d) X 205 1136 [some (.float fk), l1, l2, l3] st sh M kc ks Q = gR (gcl d) X 205 1137 [some (.float fk), l1, l2, l3] (.float fk :: st) sh M kc ks Q := x_aload_nf (gcl_m d) (gopt (e := (.aload_n 0, 1, 0, 0, 0)) gt205 rfl) rfl rfl
set_option maxRecDepth 100000 in
theorem u205_1137 : gR (gcl d) X 205 1137 [l0, l1, l2, some (.int x)] st sh M kc ks Q = gR (gcl d) X 205 1138 [l0, l1, l2, some (.int x)] (.int x :: st) sh M kc ks Q := x_iload_n (gcl_m d) (gopt (e := (.iload_n 3, 1, 0, 0, 0)) gt205 rfl) rfl rfl
set_option maxRecDepth 100000 in
theorem u205_1138 : gR (gcl d) X 205 1138 [l0, l1, l2, l3] st sh M kc ks Q = gR (gcl d) X 205 1139 [l0, l1, l2, l3] (.int (nI 2) :: st) sh M kc ks Q := x_iconst (gcl_m d) (gopt (e := (.iconst 2, 1, 0, 0, 0)) gt205 rfl) (by decide) rfl
set_option maxRecDepth 100000 in
theorem u205_1139 : gR (gcl d) X 205 1139 [l0, l1, l2, l3] (.int y :: .int x :: st) sh M kc ks Q = gR (gcl d) X 205 1140 [l0, l1, l2, l3] (.int (x + y) :: st) sh M kc ks Q := x_iadd (gcl_m d) (gopt (e := (.iadd, 1, 0, 0, 0)) gt205 rfl) rfl
set_option maxRecDepth 100000 in
theorem u205_1140 : gR (gcl d) X 205 1140 [l0, l1, l2, l3] (.int x :: .float fk :: st) sh M kc ks Q = (vp_in x (gro 205 X fk).1 ∧ gR (gcl d) X 205 1141 [l0, l1, l2, l3] (.int ((gro 205 X fk).2 x.toNatClampNeg) :: st) sh M kc ks Q) := x_iaro (gcl_m d) (gopt (e := (.iaload, 1, 0, 0, 0)) gt205 rfl) rfl
set_option maxRecDepth 100000 in
theorem u205_1141 : gR (gcl d) X 205 1141 [l0, l1, l2, l3] (v2 :: v1 :: .ref o :: st) sh M kc ks Q = ((gci sh o = some 6 ∧ st.length ≤ 4 ∧ gro1 205 kc ks 0 0) ∧ gcl d 103 [.ref o, v1, v2] sh M fun v sh2 M2 => gR (gcl d) X 205 1144 [l0, l1, l2, l3] (v ++ st) sh2 M2 kc ks Q) := x_virtk (gcl_m d) (gopt (e := (.invokevirtual 131, 3, 103, 2, 0)) gt205 rfl) rfl rfl rfl rfl rfl
set_option maxRecDepth 100000 in
theorem u205_1144 : gR (gcl d) X 205 1144 [l0, l1, some (.ref o), l3] st sh M kc ks Q = gR (gcl d) X 205 1145 [l0, l1, some (.ref o), l3] (.ref o :: st) sh M kc ks Q := x_aload_n (gcl_m d) (gopt (e := (.aload_n 2, 1, 0, 0, 0)) gt205 rfl) rfl rfl
set_option maxRecDepth 100000 in
theorem u205_1144f : gR (gcl d) X 205 1144 [l0, l1, some (.float fk), l3] st sh M kc ks Q = gR (gcl d) X 205 1145 [l0, l1, some (.float fk), l3] (.float fk :: st) sh M kc ks Q := x_aload_nf (gcl_m d) (gopt (e := (.aload_n 2, 1, 0, 0, 0)) gt205 rfl) rfl rfl
set_option maxRecDepth 100000 in
theorem u205_1145 : gR (gcl d) X 205 1145 [some (.ref o), l1, l2, l3] st sh M kc ks Q = gR (gcl d) X 205 1146 [some (.ref o), l1, l2, l3] (.ref o :: st) sh M kc ks Q := x_aload_n (gcl_m d) (gopt (e := (.aload_n 0, 1, 0, 0, 0)) gt205 rfl) rfl rfl
set_option maxRecDepth 100000 in
theorem u205_1145f : gR (gcl d) X 205 1145 [some (.float fk), l1, l2, l3] st sh M kc ks Q = gR (gcl d) X 205 1146 [some (.float fk), l1, l2, l3] (.float fk :: st) sh M kc ks Q := x_aload_nf (gcl_m d) (gopt (e := (.aload_n 0, 1, 0, 0, 0)) gt205 rfl) rfl rfl
set_option maxRecDepth 100000 in
theorem u205_1146 : gR (gcl d) X 205 1146 [l0, l1, l2, some (.int x)] st sh M kc ks Q = gR (gcl d) X 205 1147 [l0, l1, l2, some (.int x)] (.int x :: st) sh M kc ks Q := x_iload_n (gcl_m d) (gopt (e := (.iload_n 3, 1, 0, 0, 0)) gt205 rfl) rfl rfl
set_option maxRecDepth 100000 in
theorem u205_1147 : gR (gcl d) X 205 1147 [l0, l1, l2, l3] st sh M kc ks Q = gR (gcl d) X 205 1148 [l0, l1, l2, l3] (.int (nI 1) :: st) sh M kc ks Q := x_iconst (gcl_m d) (gopt (e := (.iconst 1, 1, 0, 0, 0)) gt205 rfl) (by decide) rfl
set_option maxRecDepth 100000 in
theorem u205_1148 : gR (gcl d) X 205 1148 [l0, l1, l2, l3] (.int y :: .int x :: st) sh M kc ks Q = gR (gcl d) X 205 1149 [l0, l1, l2, l3] (.int (x + y) :: st) sh M kc ks Q := x_iadd (gcl_m d) (gopt (e := (.iadd, 1, 0, 0, 0)) gt205 rfl) rfl
set_option maxRecDepth 100000 in
theorem u205_1149 : gR (gcl d) X 205 1149 [l0, l1, l2, l3] (.int x :: .float fk :: st) sh M kc ks Q = (vp_in x (gro 205 X fk).1 ∧ gR (gcl d) X 205 1150 [l0, l1, l2, l3] (.int ((gro 205 X fk).2 x.toNatClampNeg) :: st) sh M kc ks Q) := x_iaro (gcl_m d) (gopt (e := (.iaload, 1, 0, 0, 0)) gt205 rfl) rfl
set_option maxRecDepth 100000 in
theorem u205_1150 : gR (gcl d) X 205 1150 [some (.ref o), l1, l2, l3] st sh M kc ks Q = gR (gcl d) X 205 1151 [some (.ref o), l1, l2, l3] (.ref o :: st) sh M kc ks Q := x_aload_n (gcl_m d) (gopt (e := (.aload_n 0, 1, 0, 0, 0)) gt205 rfl) rfl rfl
set_option maxRecDepth 100000 in
theorem u205_1150f : gR (gcl d) X 205 1150 [some (.float fk), l1, l2, l3] st sh M kc ks Q = gR (gcl d) X 205 1151 [some (.float fk), l1, l2, l3] (.float fk :: st) sh M kc ks Q := x_aload_nf (gcl_m d) (gopt (e := (.aload_n 0, 1, 0, 0, 0)) gt205 rfl) rfl rfl
set_option maxRecDepth 100000 in
theorem u205_1151 : gR (gcl d) X 205 1151 [l0, l1, l2, some (.int x)] st sh M kc ks Q = gR (gcl d) X 205 1152 [l0, l1, l2, some (.int x)] (.int x :: st) sh M kc ks Q := x_iload_n (gcl_m d) (gopt (e := (.iload_n 3, 1, 0, 0, 0)) gt205 rfl) rfl rfl
set_option maxRecDepth 100000 in
theorem u205_1152 : gR (gcl d) X 205 1152 [l0, l1, l2, l3] st sh M kc ks Q = gR (gcl d) X 205 1153 [l0, l1, l2, l3] (.int (nI 2) :: st) sh M kc ks Q := x_iconst (gcl_m d) (gopt (e := (.iconst 2, 1, 0, 0, 0)) gt205 rfl) (by decide) rfl
set_option maxRecDepth 100000 in
theorem u205_1153 : gR (gcl d) X 205 1153 [l0, l1, l2, l3] (.int y :: .int x :: st) sh M kc ks Q = gR (gcl d) X 205 1154 [l0, l1, l2, l3] (.int (x + y) :: st) sh M kc ks Q := x_iadd (gcl_m d) (gopt (e := (.iadd, 1, 0, 0, 0)) gt205 rfl) rfl
set_option maxRecDepth 100000 in
theorem u205_1154 : gR (gcl d) X 205 1154 [l0, l1, l2, l3] (.int x :: .float fk :: st) sh M kc ks Q = (vp_in x (gro 205 X fk).1 ∧ gR (gcl d) X 205 1155 [l0, l1, l2, l3] (.int ((gro 205 X fk).2 x.toNatClampNeg) :: st) sh M kc ks Q) := x_iaro (gcl_m d) (gopt (e := (.iaload, 1, 0, 0, 0)) gt205 rfl) rfl
set_option maxRecDepth 100000 in
theorem u205_1155 : gR (gcl d) X 205 1155 [l0, l1, l2, l3] (v2 :: v1 :: .ref o :: st) sh M kc ks Q = ((gci sh o = some 7 ∧ st.length ≤ 4 ∧ gro1 205 kc ks 0 0) ∧ gcl d 197 [.ref o, v1, v2] sh M fun v sh2 M2 => gR (gcl d) X 205 1158 [l0, l1, l2, l3] (v ++ st) sh2 M2 kc ks Q) := x_virtk (gcl_m d) (gopt (e := (.invokevirtual 134, 3, 197, 2, 0)) gt205 rfl) rfl rfl rfl rfl rfl
set_option maxRecDepth 100000 in
theorem u205_1158 : gR (gcl d) X 205 1158 [l0, l1, l2, l3] (.int y :: .int x :: st) sh M kc ks Q = ((x = y → gR (gcl d) X 205 1222 [l0, l1, l2, l3] st sh M kc ks Q) ∧ (¬ x = y → gR (gcl d) X 205 1161 [l0, l1, l2, l3] st sh M kc ks Q)) := x_icmp_eq (gcl_m d) (gopt (e := (.if_icmp .eq 64, 3, 1222, 0, 0)) gt205 rfl) rfl
set_option maxRecDepth 100000 in
theorem u205_1161 : gR (gcl d) X 205 1161 [l0, l1, l2, l3] st sh M kc ks Q = gR (gcl d) X 205 1162 [l0, l1, l2, l3] (.int (nI 0) :: st) sh M kc ks Q := x_iconst (gcl_m d) (gopt (e := (.iconst 0, 1, 0, 0, 0)) gt205 rfl) (by decide) rfl
set_option maxRecDepth 100000 in
theorem u205_1162 : gR (gcl d) X 205 1162 [l0, l1, l2, l3] [.int (nI 1)] sh M kc ks Q = (gfin 205 kc ks ∧ Q [.int (nI 1)] sh M) := x_retk (gcl_m d) (gopt (e := (.ireturn, 1, 0, 0, 0)) gt205 rfl) (Or.inr ⟨rfl, Or.inr (by decide)⟩)
set_option maxRecDepth 100000 in
theorem u205_1163 : gR (gcl d) X 205 1163 [l0, some (.ref o), l2, l3] st sh M kc ks Q = gR (gcl d) X 205 1164 [l0, some (.ref o), l2, l3] (.ref o :: st) sh M kc ks Q := x_aload_n (gcl_m d) (gopt (e := (.aload_n 1, 1, 0, 0, 0)) gt205 rfl) rfl rfl
set_option maxRecDepth 100000 in
theorem u205_1163f : gR (gcl d) X 205 1163 [l0, some (.float fk), l2, l3] st sh M kc ks Q = gR (gcl d) X 205 1164 [l0, some (.float fk), l2, l3] (.float fk :: st) sh M kc ks Q := x_aload_nf (gcl_m d) (gopt (e := (.aload_n 1, 1, 0, 0, 0)) gt205 rfl) rfl rfl
set_option maxRecDepth 100000 in
theorem u205_1164 : gR (gcl d) X 205 1164 [some (.ref o), l1, l2, l3] st sh M kc ks Q = gR (gcl d) X 205 1165 [some (.ref o), l1, l2, l3] (.ref o :: st) sh M kc ks Q := x_aload_n (gcl_m d) (gopt (e := (.aload_n 0, 1, 0, 0, 0)) gt205 rfl) rfl rfl
set_option maxRecDepth 100000 in
theorem u205_1164f : gR (gcl d) X 205 1164 [some (.float fk), l1, l2, l3] st sh M kc ks Q = gR (gcl d) X 205 1165 [some (.float fk), l1, l2, l3] (.float fk :: st) sh M kc ks Q := x_aload_nf (gcl_m d) (gopt (e := (.aload_n 0, 1, 0, 0, 0)) gt205 rfl) rfl rfl
set_option maxRecDepth 100000 in
theorem u205_1165 : gR (gcl d) X 205 1165 [l0, l1, l2, some (.int x)] st sh M kc ks Q = gR (gcl d) X 205 1166 [l0, l1, l2, some (.int x)] (.int x :: st) sh M kc ks Q := x_iload_n (gcl_m d) (gopt (e := (.iload_n 3, 1, 0, 0, 0)) gt205 rfl) rfl rfl
set_option maxRecDepth 100000 in
theorem u205_1166 : gR (gcl d) X 205 1166 [l0, l1, l2, l3] st sh M kc ks Q = gR (gcl d) X 205 1167 [l0, l1, l2, l3] (.int (nI 1) :: st) sh M kc ks Q := x_iconst (gcl_m d) (gopt (e := (.iconst 1, 1, 0, 0, 0)) gt205 rfl) (by decide) rfl
set_option maxRecDepth 100000 in
theorem u205_1167 : gR (gcl d) X 205 1167 [l0, l1, l2, l3] (.int y :: .int x :: st) sh M kc ks Q = gR (gcl d) X 205 1168 [l0, l1, l2, l3] (.int (x + y) :: st) sh M kc ks Q := x_iadd (gcl_m d) (gopt (e := (.iadd, 1, 0, 0, 0)) gt205 rfl) rfl
set_option maxRecDepth 100000 in
theorem u205_1168 : gR (gcl d) X 205 1168 [l0, l1, l2, l3] (.int x :: .float fk :: st) sh M kc ks Q = (vp_in x (gro 205 X fk).1 ∧ gR (gcl d) X 205 1169 [l0, l1, l2, l3] (.int ((gro 205 X fk).2 x.toNatClampNeg) :: st) sh M kc ks Q) := x_iaro (gcl_m d) (gopt (e := (.iaload, 1, 0, 0, 0)) gt205 rfl) rfl
set_option maxRecDepth 100000 in
theorem u205_1169 : gR (gcl d) X 205 1169 [l0, l1, l2, l3] (v1 :: .ref o :: st) sh M kc ks Q = ((gci sh o = some 6 ∧ st.length ≤ 4 ∧ gro1 205 kc ks 0 0) ∧ gcl d 104 [.ref o, v1] sh M fun v sh2 M2 => gR (gcl d) X 205 1172 [l0, l1, l2, l3] (v ++ st) sh2 M2 kc ks Q) := x_virtk (gcl_m d) (gopt (e := (.invokevirtual 135, 3, 104, 1, 0)) gt205 rfl) rfl rfl rfl rfl rfl
set_option maxRecDepth 100000 in
theorem u205_1172 : gR (gcl d) X 205 1172 [l0, l1, some (.ref o), l3] st sh M kc ks Q = gR (gcl d) X 205 1173 [l0, l1, some (.ref o), l3] (.ref o :: st) sh M kc ks Q := x_aload_n (gcl_m d) (gopt (e := (.aload_n 2, 1, 0, 0, 0)) gt205 rfl) rfl rfl
set_option maxRecDepth 100000 in
theorem u205_1172f : gR (gcl d) X 205 1172 [l0, l1, some (.float fk), l3] st sh M kc ks Q = gR (gcl d) X 205 1173 [l0, l1, some (.float fk), l3] (.float fk :: st) sh M kc ks Q := x_aload_nf (gcl_m d) (gopt (e := (.aload_n 2, 1, 0, 0, 0)) gt205 rfl) rfl rfl
set_option maxRecDepth 100000 in
theorem u205_1173 : gR (gcl d) X 205 1173 [some (.ref o), l1, l2, l3] st sh M kc ks Q = gR (gcl d) X 205 1174 [some (.ref o), l1, l2, l3] (.ref o :: st) sh M kc ks Q := x_aload_n (gcl_m d) (gopt (e := (.aload_n 0, 1, 0, 0, 0)) gt205 rfl) rfl rfl
set_option maxRecDepth 100000 in
theorem u205_1173f : gR (gcl d) X 205 1173 [some (.float fk), l1, l2, l3] st sh M kc ks Q = gR (gcl d) X 205 1174 [some (.float fk), l1, l2, l3] (.float fk :: st) sh M kc ks Q := x_aload_nf (gcl_m d) (gopt (e := (.aload_n 0, 1, 0, 0, 0)) gt205 rfl) rfl rfl
set_option maxRecDepth 100000 in
theorem u205_1174 : gR (gcl d) X 205 1174 [l0, l1, l2, some (.int x)] st sh M kc ks Q = gR (gcl d) X 205 1175 [l0, l1, l2, some (.int x)] (.int x :: st) sh M kc ks Q := x_iload_n (gcl_m d) (gopt (e := (.iload_n 3, 1, 0, 0, 0)) gt205 rfl) rfl rfl
set_option maxRecDepth 100000 in
theorem u205_1175 : gR (gcl d) X 205 1175 [l0, l1, l2, l3] st sh M kc ks Q = gR (gcl d) X 205 1176 [l0, l1, l2, l3] (.int (nI 1) :: st) sh M kc ks Q := x_iconst (gcl_m d) (gopt (e := (.iconst 1, 1, 0, 0, 0)) gt205 rfl) (by decide) rfl
set_option maxRecDepth 100000 in
theorem u205_1176 : gR (gcl d) X 205 1176 [l0, l1, l2, l3] (.int y :: .int x :: st) sh M kc ks Q = gR (gcl d) X 205 1177 [l0, l1, l2, l3] (.int (x + y) :: st) sh M kc ks Q := x_iadd (gcl_m d) (gopt (e := (.iadd, 1, 0, 0, 0)) gt205 rfl) rfl
set_option maxRecDepth 100000 in
theorem u205_1177 : gR (gcl d) X 205 1177 [l0, l1, l2, l3] (.int x :: .float fk :: st) sh M kc ks Q = (vp_in x (gro 205 X fk).1 ∧ gR (gcl d) X 205 1178 [l0, l1, l2, l3] (.int ((gro 205 X fk).2 x.toNatClampNeg) :: st) sh M kc ks Q) := x_iaro (gcl_m d) (gopt (e := (.iaload, 1, 0, 0, 0)) gt205 rfl) rfl
set_option maxRecDepth 100000 in
theorem u205_1178 : gR (gcl d) X 205 1178 [l0, l1, l2, l3] (v1 :: .ref o :: st) sh M kc ks Q = ((gci sh o = some 7 ∧ st.length ≤ 4 ∧ gro1 205 kc ks 0 0) ∧ gcl d 198 [.ref o, v1] sh M fun v sh2 M2 => gR (gcl d) X 205 1181 [l0, l1, l2, l3] (v ++ st) sh2 M2 kc ks Q) := x_virtk (gcl_m d) (gopt (e := (.invokevirtual 138, 3, 198, 1, 0)) gt205 rfl) rfl rfl rfl rfl rfl
set_option maxRecDepth 100000 in
theorem u205_1181 : gR (gcl d) X 205 1181 [l0, l1, l2, l3] (.int y :: .int x :: st) sh M kc ks Q = ((x = y → gR (gcl d) X 205 1222 [l0, l1, l2, l3] st sh M kc ks Q) ∧ (¬ x = y → gR (gcl d) X 205 1184 [l0, l1, l2, l3] st sh M kc ks Q)) := x_icmp_eq (gcl_m d) (gopt (e := (.if_icmp .eq 41, 3, 1222, 0, 0)) gt205 rfl) rfl
set_option maxRecDepth 100000 in
theorem u205_1184 : gR (gcl d) X 205 1184 [l0, l1, l2, l3] st sh M kc ks Q = gR (gcl d) X 205 1185 [l0, l1, l2, l3] (.int (nI 0) :: st) sh M kc ks Q := x_iconst (gcl_m d) (gopt (e := (.iconst 0, 1, 0, 0, 0)) gt205 rfl) (by decide) rfl
set_option maxRecDepth 100000 in
theorem u205_1185 : gR (gcl d) X 205 1185 [l0, l1, l2, l3] [.int (nI 1)] sh M kc ks Q = (gfin 205 kc ks ∧ Q [.int (nI 1)] sh M) := x_retk (gcl_m d) (gopt (e := (.ireturn, 1, 0, 0, 0)) gt205 rfl) (Or.inr ⟨rfl, Or.inr (by decide)⟩)
set_option maxRecDepth 100000 in
theorem u205_1186 : gR (gcl d) X 205 1186 [l0, some (.ref o), l2, l3] st sh M kc ks Q = gR (gcl d) X 205 1187 [l0, some (.ref o), l2, l3] (.ref o :: st) sh M kc ks Q := x_aload_n (gcl_m d) (gopt (e := (.aload_n 1, 1, 0, 0, 0)) gt205 rfl) rfl rfl
set_option maxRecDepth 100000 in
theorem u205_1186f : gR (gcl d) X 205 1186 [l0, some (.float fk), l2, l3] st sh M kc ks Q = gR (gcl d) X 205 1187 [l0, some (.float fk), l2, l3] (.float fk :: st) sh M kc ks Q := x_aload_nf (gcl_m d) (gopt (e := (.aload_n 1, 1, 0, 0, 0)) gt205 rfl) rfl rfl
set_option maxRecDepth 100000 in
theorem u205_1187 : gR (gcl d) X 205 1187 [some (.ref o), l1, l2, l3] st sh M kc ks Q = gR (gcl d) X 205 1188 [some (.ref o), l1, l2, l3] (.ref o :: st) sh M kc ks Q := x_aload_n (gcl_m d) (gopt (e := (.aload_n 0, 1, 0, 0, 0)) gt205 rfl) rfl rfl
set_option maxRecDepth 100000 in
theorem u205_1187f : gR (gcl d) X 205 1187 [some (.float fk), l1, l2, l3] st sh M kc ks Q = gR (gcl d) X 205 1188 [some (.float fk), l1, l2, l3] (.float fk :: st) sh M kc ks Q := x_aload_nf (gcl_m d) (gopt (e := (.aload_n 0, 1, 0, 0, 0)) gt205 rfl) rfl rfl
set_option maxRecDepth 100000 in
theorem u205_1188 : gR (gcl d) X 205 1188 [l0, l1, l2, some (.int x)] st sh M kc ks Q = gR (gcl d) X 205 1189 [l0, l1, l2, some (.int x)] (.int x :: st) sh M kc ks Q := x_iload_n (gcl_m d) (gopt (e := (.iload_n 3, 1, 0, 0, 0)) gt205 rfl) rfl rfl
set_option maxRecDepth 100000 in
theorem u205_1189 : gR (gcl d) X 205 1189 [l0, l1, l2, l3] st sh M kc ks Q = gR (gcl d) X 205 1190 [l0, l1, l2, l3] (.int (nI 1) :: st) sh M kc ks Q := x_iconst (gcl_m d) (gopt (e := (.iconst 1, 1, 0, 0, 0)) gt205 rfl) (by decide) rfl
set_option maxRecDepth 100000 in
theorem u205_1190 : gR (gcl d) X 205 1190 [l0, l1, l2, l3] (.int y :: .int x :: st) sh M kc ks Q = gR (gcl d) X 205 1191 [l0, l1, l2, l3] (.int (x + y) :: st) sh M kc ks Q := x_iadd (gcl_m d) (gopt (e := (.iadd, 1, 0, 0, 0)) gt205 rfl) rfl
set_option maxRecDepth 100000 in
theorem u205_1191 : gR (gcl d) X 205 1191 [l0, l1, l2, l3] (.int x :: .float fk :: st) sh M kc ks Q = (vp_in x (gro 205 X fk).1 ∧ gR (gcl d) X 205 1192 [l0, l1, l2, l3] (.int ((gro 205 X fk).2 x.toNatClampNeg) :: st) sh M kc ks Q) := x_iaro (gcl_m d) (gopt (e := (.iaload, 1, 0, 0, 0)) gt205 rfl) rfl
set_option maxRecDepth 100000 in
theorem u205_1192 : gR (gcl d) X 205 1192 [l0, l1, l2, l3] (v1 :: .ref o :: st) sh M kc ks Q = ((gci sh o = some 6 ∧ st.length ≤ 4 ∧ gro1 205 kc ks 0 0) ∧ gcl d 105 [.ref o, v1] sh M fun v sh2 M2 => gR (gcl d) X 205 1195 [l0, l1, l2, l3] (v ++ st) sh2 M2 kc ks Q) := x_virtk (gcl_m d) (gopt (e := (.invokevirtual 139, 3, 105, 1, 0)) gt205 rfl) rfl rfl rfl rfl rfl
set_option maxRecDepth 100000 in
theorem u205_1195 : gR (gcl d) X 205 1195 [l0, l1, some (.ref o), l3] st sh M kc ks Q = gR (gcl d) X 205 1196 [l0, l1, some (.ref o), l3] (.ref o :: st) sh M kc ks Q := x_aload_n (gcl_m d) (gopt (e := (.aload_n 2, 1, 0, 0, 0)) gt205 rfl) rfl rfl
set_option maxRecDepth 100000 in
theorem u205_1195f : gR (gcl d) X 205 1195 [l0, l1, some (.float fk), l3] st sh M kc ks Q = gR (gcl d) X 205 1196 [l0, l1, some (.float fk), l3] (.float fk :: st) sh M kc ks Q := x_aload_nf (gcl_m d) (gopt (e := (.aload_n 2, 1, 0, 0, 0)) gt205 rfl) rfl rfl
set_option maxRecDepth 100000 in
theorem u205_1196 : gR (gcl d) X 205 1196 [some (.ref o), l1, l2, l3] st sh M kc ks Q = gR (gcl d) X 205 1197 [some (.ref o), l1, l2, l3] (.ref o :: st) sh M kc ks Q := x_aload_n (gcl_m d) (gopt (e := (.aload_n 0, 1, 0, 0, 0)) gt205 rfl) rfl rfl
set_option maxRecDepth 100000 in
theorem u205_1196f : gR (gcl d) X 205 1196 [some (.float fk), l1, l2, l3] st sh M kc ks Q = gR (gcl d) X 205 1197 [some (.float fk), l1, l2, l3] (.float fk :: st) sh M kc ks Q := x_aload_nf (gcl_m d) (gopt (e := (.aload_n 0, 1, 0, 0, 0)) gt205 rfl) rfl rfl
set_option maxRecDepth 100000 in
theorem u205_1197 : gR (gcl d) X 205 1197 [l0, l1, l2, some (.int x)] st sh M kc ks Q = gR (gcl d) X 205 1198 [l0, l1, l2, some (.int x)] (.int x :: st) sh M kc ks Q := x_iload_n (gcl_m d) (gopt (e := (.iload_n 3, 1, 0, 0, 0)) gt205 rfl) rfl rfl
set_option maxRecDepth 100000 in
theorem u205_1198 : gR (gcl d) X 205 1198 [l0, l1, l2, l3] st sh M kc ks Q = gR (gcl d) X 205 1199 [l0, l1, l2, l3] (.int (nI 1) :: st) sh M kc ks Q := x_iconst (gcl_m d) (gopt (e := (.iconst 1, 1, 0, 0, 0)) gt205 rfl) (by decide) rfl
set_option maxRecDepth 100000 in
theorem u205_1199 : gR (gcl d) X 205 1199 [l0, l1, l2, l3] (.int y :: .int x :: st) sh M kc ks Q = gR (gcl d) X 205 1200 [l0, l1, l2, l3] (.int (x + y) :: st) sh M kc ks Q := x_iadd (gcl_m d) (gopt (e := (.iadd, 1, 0, 0, 0)) gt205 rfl) rfl
set_option maxRecDepth 100000 in
theorem u205_1200 : gR (gcl d) X 205 1200 [l0, l1, l2, l3] (.int x :: .float fk :: st) sh M kc ks Q = (vp_in x (gro 205 X fk).1 ∧ gR (gcl d) X 205 1201 [l0, l1, l2, l3] (.int ((gro 205 X fk).2 x.toNatClampNeg) :: st) sh M kc ks Q) := x_iaro (gcl_m d) (gopt (e := (.iaload, 1, 0, 0, 0)) gt205 rfl) rfl
set_option maxRecDepth 100000 in
theorem u205_1201 : gR (gcl d) X 205 1201 [l0, l1, l2, l3] (v1 :: .ref o :: st) sh M kc ks Q = ((gci sh o = some 7 ∧ st.length ≤ 4 ∧ gro1 205 kc ks 0 0) ∧ gcl d 199 [.ref o, v1] sh M fun v sh2 M2 => gR (gcl d) X 205 1204 [l0, l1, l2, l3] (v ++ st) sh2 M2 kc ks Q) := x_virtk (gcl_m d) (gopt (e := (.invokevirtual 142, 3, 199, 1, 0)) gt205 rfl) rfl rfl rfl rfl rfl
set_option maxRecDepth 100000 in
theorem u205_1204 : gR (gcl d) X 205 1204 [l0, l1, l2, l3] (.int y :: .int x :: st) sh M kc ks Q = ((x = y → gR (gcl d) X 205 1222 [l0, l1, l2, l3] st sh M kc ks Q) ∧ (¬ x = y → gR (gcl d) X 205 1207 [l0, l1, l2, l3] st sh M kc ks Q)) := x_icmp_eq (gcl_m d) (gopt (e := (.if_icmp .eq 18, 3, 1222, 0, 0)) gt205 rfl) rfl
set_option maxRecDepth 100000 in
theorem u205_1207 : gR (gcl d) X 205 1207 [l0, l1, l2, l3] st sh M kc ks Q = gR (gcl d) X 205 1208 [l0, l1, l2, l3] (.int (nI 0) :: st) sh M kc ks Q := x_iconst (gcl_m d) (gopt (e := (.iconst 0, 1, 0, 0, 0)) gt205 rfl) (by decide) rfl
set_option maxRecDepth 100000 in
theorem u205_1208 : gR (gcl d) X 205 1208 [l0, l1, l2, l3] [.int (nI 1)] sh M kc ks Q = (gfin 205 kc ks ∧ Q [.int (nI 1)] sh M) := x_retk (gcl_m d) (gopt (e := (.ireturn, 1, 0, 0, 0)) gt205 rfl) (Or.inr ⟨rfl, Or.inr (by decide)⟩)
set_option maxRecDepth 100000 in
theorem u205_1209 : gR (gcl d) X 205 1209 [l0, some (.ref o), l2, l3] st sh M kc ks Q = gR (gcl d) X 205 1210 [l0, some (.ref o), l2, l3] (.ref o :: st) sh M kc ks Q := x_aload_n (gcl_m d) (gopt (e := (.aload_n 1, 1, 0, 0, 0)) gt205 rfl) rfl rfl
set_option maxRecDepth 100000 in
theorem u205_1209f : gR (gcl d) X 205 1209 [l0, some (.float fk), l2, l3] st sh M kc ks Q = gR (gcl d) X 205 1210 [l0, some (.float fk), l2, l3] (.float fk :: st) sh M kc ks Q := x_aload_nf (gcl_m d) (gopt (e := (.aload_n 1, 1, 0, 0, 0)) gt205 rfl) rfl rfl
set_option maxRecDepth 100000 in
theorem u205_1210 : gR (gcl d) X 205 1210 [l0, l1, l2, l3] (.ref o :: st) sh M kc ks Q = ((gci sh o = some 6 ∧ st.length ≤ 4 ∧ gro1 205 kc ks 0 0) ∧ gcl d 106 [.ref o] sh M fun v sh2 M2 => gR (gcl d) X 205 1213 [l0, l1, l2, l3] (v ++ st) sh2 M2 kc ks Q) := x_virtk (gcl_m d) (gopt (e := (.invokevirtual 143, 3, 106, 0, 0)) gt205 rfl) rfl rfl rfl rfl rfl
set_option maxRecDepth 100000 in
theorem u205_1213 : gR (gcl d) X 205 1213 [l0, l1, some (.ref o), l3] st sh M kc ks Q = gR (gcl d) X 205 1214 [l0, l1, some (.ref o), l3] (.ref o :: st) sh M kc ks Q := x_aload_n (gcl_m d) (gopt (e := (.aload_n 2, 1, 0, 0, 0)) gt205 rfl) rfl rfl
set_option maxRecDepth 100000 in
theorem u205_1213f : gR (gcl d) X 205 1213 [l0, l1, some (.float fk), l3] st sh M kc ks Q = gR (gcl d) X 205 1214 [l0, l1, some (.float fk), l3] (.float fk :: st) sh M kc ks Q := x_aload_nf (gcl_m d) (gopt (e := (.aload_n 2, 1, 0, 0, 0)) gt205 rfl) rfl rfl
set_option maxRecDepth 100000 in
theorem u205_1214 : gR (gcl d) X 205 1214 [l0, l1, l2, l3] (.ref o :: st) sh M kc ks Q = ((gci sh o = some 7 ∧ st.length ≤ 4 ∧ gro1 205 kc ks 0 0) ∧ gcl d 200 [.ref o] sh M fun v sh2 M2 => gR (gcl d) X 205 1217 [l0, l1, l2, l3] (v ++ st) sh2 M2 kc ks Q) := x_virtk (gcl_m d) (gopt (e := (.invokevirtual 146, 3, 200, 0, 0)) gt205 rfl) rfl rfl rfl rfl rfl
set_option maxRecDepth 100000 in
theorem u205_1217 : gR (gcl d) X 205 1217 [l0, l1, l2, l3] (.int y :: .int x :: st) sh M kc ks Q = ((x = y → gR (gcl d) X 205 1222 [l0, l1, l2, l3] st sh M kc ks Q) ∧ (¬ x = y → gR (gcl d) X 205 1220 [l0, l1, l2, l3] st sh M kc ks Q)) := x_icmp_eq (gcl_m d) (gopt (e := (.if_icmp .eq 5, 3, 1222, 0, 0)) gt205 rfl) rfl
set_option maxRecDepth 100000 in
theorem u205_1220 : gR (gcl d) X 205 1220 [l0, l1, l2, l3] st sh M kc ks Q = gR (gcl d) X 205 1221 [l0, l1, l2, l3] (.int (nI 0) :: st) sh M kc ks Q := x_iconst (gcl_m d) (gopt (e := (.iconst 0, 1, 0, 0, 0)) gt205 rfl) (by decide) rfl
set_option maxRecDepth 100000 in
theorem u205_1221 : gR (gcl d) X 205 1221 [l0, l1, l2, l3] [.int (nI 1)] sh M kc ks Q = (gfin 205 kc ks ∧ Q [.int (nI 1)] sh M) := x_retk (gcl_m d) (gopt (e := (.ireturn, 1, 0, 0, 0)) gt205 rfl) (Or.inr ⟨rfl, Or.inr (by decide)⟩)
set_option maxRecDepth 100000 in
theorem u205_1222 : gR (gcl d) X 205 1222 [l0, l1, l2, some (.int x)] st sh M kc ks Q = gR (gcl d) X 205 1225 [l0, l1, l2, some (.int (x + nI 6))] st sh M kc ks Q := x_iinc (gcl_m d) (gopt (e := (.iinc 3 6, 3, 0, 0, 0)) gt205 rfl) rfl (by decide) rfl rfl
set_option maxRecDepth 100000 in
theorem u205_1225 : gR (gcl d) X 205 1225 [l0, l1, l2, l3] st sh M kc ks Q = gR (gcl d) X 205 18 [l0, l1, l2, l3] st sh M kc ks Q := x_goto (gcl_m d) (gopt (e := (.goto (-1207), 3, 18, 0, 0)) gt205 rfl)
set_option maxRecDepth 100000 in
theorem u205_1228 : gR (gcl d) X 205 1228 [l0, l1, l2, l3] st sh M kc ks Q = gR (gcl d) X 205 1229 [l0, l1, l2, l3] (.int (nI 1) :: st) sh M kc ks Q := x_iconst (gcl_m d) (gopt (e := (.iconst 1, 1, 0, 0, 0)) gt205 rfl) (by decide) rfl
set_option maxRecDepth 100000 in
theorem u205_1229 : gR (gcl d) X 205 1229 [l0, l1, l2, l3] [.int (nI 1)] sh M kc ks Q = (gfin 205 kc ks ∧ Q [.int (nI 1)] sh M) := x_retk (gcl_m d) (gopt (e := (.ireturn, 1, 0, 0, 0)) gt205 rfl) (Or.inr ⟨rfl, Or.inr (by decide)⟩)
end GU
