/-! the shapes behind the two constructors -/
def gSH : gS := [.inr (6, [some (.ref 1), some (.ref 13), some (.ref 15), some (.ref 19), some (.ref 23), some (.ref 25), some (.ref 26), some (.ref 27), none, none, none]), .inr (4, [some (.ref 2), some (.ref 11), some (.ref 12)]), .inl (2, 8, [3, 4, 5, 6, 7, 8, 9, 10]), .inl (0, 40, []), .inl (0, 40, []), .inl (0, 40, []), .inl (0, 40, []), .inl (0, 40, []), .inl (0, 40, []), .inl (0, 40, []), .inl (0, 40, []), .inl (0, 8, []), .inl (0, 8, []), .inr (5, [some (.ref 14), none]), .inl (0, 120, []), .inr (2, [some (.ref 16), some (.ref 17), some (.ref 18)]), .inl (0, 47, []), .inl (0, 12, []), .inl (0, 7, []), .inr (2, [some (.ref 20), some (.ref 21), some (.ref 22)]), .inl (0, 47, []), .inl (0, 12, []), .inl (0, 7, []), .inr (0, [some (.ref 24), none, none]), .inl (0, 1128, []), .inl (0, 94, []), .inl (1, 2, []), .inr (1, [some (.ref 28), none]), .inl (0, 16, []), .inr (7, [some (.ref 30), some (.ref 31), some (.ref 32), none, none, some (.ref 33), some (.ref 34), some (.ref 35), none, none, none, none, none, none, none, some (.ref 36), none, some (.ref 37), some (.ref 38), none, some (.ref 39), some (.ref 40), some (.ref 41), some (.ref 42), none]), .inl (0, 8, []), .inl (0, 8, []), .inl (0, 320, []), .inl (0, 46, []), .inl (0, 40, []), .inl (0, 120, []), .inl (0, 46, []), .inl (0, 7, []), .inl (0, 1104, []), .inl (0, 46, []), .inl (1, 2, []), .inl (0, 92, []), .inl (0, 16, [])]
section GSH
variable {rs : gS}
theorem kc0 : gci (gSH ++ rs) 0 = some 6 := rfl
theorem ks0_0 : gsl (gSH ++ rs) 0 0 = some (some (.ref 1)) := rfl
theorem ks0_1 : gsl (gSH ++ rs) 0 1 = some (some (.ref 13)) := rfl
theorem ks0_2 : gsl (gSH ++ rs) 0 2 = some (some (.ref 15)) := rfl
theorem ks0_3 : gsl (gSH ++ rs) 0 3 = some (some (.ref 19)) := rfl
theorem ks0_4 : gsl (gSH ++ rs) 0 4 = some (some (.ref 23)) := rfl
theorem ks0_5 : gsl (gSH ++ rs) 0 5 = some (some (.ref 25)) := rfl
theorem ks0_6 : gsl (gSH ++ rs) 0 6 = some (some (.ref 26)) := rfl
theorem ks0_7 : gsl (gSH ++ rs) 0 7 = some (some (.ref 27)) := rfl
theorem ks0_8 : gsl (gSH ++ rs) 0 8 = some (none) := rfl
theorem ks0_9 : gsl (gSH ++ rs) 0 9 = some (none) := rfl
theorem ks0_10 : gsl (gSH ++ rs) 0 10 = some (none) := rfl
theorem kc1 : gci (gSH ++ rs) 1 = some 4 := rfl
theorem ks1_0 : gsl (gSH ++ rs) 1 0 = some (some (.ref 2)) := rfl
theorem ks1_1 : gsl (gSH ++ rs) 1 1 = some (some (.ref 11)) := rfl
theorem ks1_2 : gsl (gSH ++ rs) 1 2 = some (some (.ref 12)) := rfl
theorem kk2 : gkd (gSH ++ rs) 2 = 2 := rfl
theorem kl2 : gln (gSH ++ rs) 2 = 8 := rfl
theorem kk3 : gkd (gSH ++ rs) 3 = 0 := rfl
theorem kl3 : gln (gSH ++ rs) 3 = 40 := rfl
theorem kk4 : gkd (gSH ++ rs) 4 = 0 := rfl
theorem kl4 : gln (gSH ++ rs) 4 = 40 := rfl
theorem kk5 : gkd (gSH ++ rs) 5 = 0 := rfl
theorem kl5 : gln (gSH ++ rs) 5 = 40 := rfl
theorem kk6 : gkd (gSH ++ rs) 6 = 0 := rfl
theorem kl6 : gln (gSH ++ rs) 6 = 40 := rfl
theorem kk7 : gkd (gSH ++ rs) 7 = 0 := rfl
theorem kl7 : gln (gSH ++ rs) 7 = 40 := rfl
theorem kk8 : gkd (gSH ++ rs) 8 = 0 := rfl
theorem kl8 : gln (gSH ++ rs) 8 = 40 := rfl
theorem kk9 : gkd (gSH ++ rs) 9 = 0 := rfl
theorem kl9 : gln (gSH ++ rs) 9 = 40 := rfl
theorem kk10 : gkd (gSH ++ rs) 10 = 0 := rfl
theorem kl10 : gln (gSH ++ rs) 10 = 40 := rfl
theorem kk11 : gkd (gSH ++ rs) 11 = 0 := rfl
theorem kl11 : gln (gSH ++ rs) 11 = 8 := rfl
theorem kk12 : gkd (gSH ++ rs) 12 = 0 := rfl
theorem kl12 : gln (gSH ++ rs) 12 = 8 := rfl
theorem kc13 : gci (gSH ++ rs) 13 = some 5 := rfl
theorem ks13_0 : gsl (gSH ++ rs) 13 0 = some (some (.ref 14)) := rfl
theorem ks13_1 : gsl (gSH ++ rs) 13 1 = some (none) := rfl
theorem kk14 : gkd (gSH ++ rs) 14 = 0 := rfl
theorem kl14 : gln (gSH ++ rs) 14 = 120 := rfl
theorem kc15 : gci (gSH ++ rs) 15 = some 2 := rfl
theorem ks15_0 : gsl (gSH ++ rs) 15 0 = some (some (.ref 16)) := rfl
theorem ks15_1 : gsl (gSH ++ rs) 15 1 = some (some (.ref 17)) := rfl
theorem ks15_2 : gsl (gSH ++ rs) 15 2 = some (some (.ref 18)) := rfl
theorem kk16 : gkd (gSH ++ rs) 16 = 0 := rfl
theorem kl16 : gln (gSH ++ rs) 16 = 47 := rfl
theorem kk17 : gkd (gSH ++ rs) 17 = 0 := rfl
theorem kl17 : gln (gSH ++ rs) 17 = 12 := rfl
theorem kk18 : gkd (gSH ++ rs) 18 = 0 := rfl
theorem kl18 : gln (gSH ++ rs) 18 = 7 := rfl
theorem kc19 : gci (gSH ++ rs) 19 = some 2 := rfl
theorem ks19_0 : gsl (gSH ++ rs) 19 0 = some (some (.ref 20)) := rfl
theorem ks19_1 : gsl (gSH ++ rs) 19 1 = some (some (.ref 21)) := rfl
theorem ks19_2 : gsl (gSH ++ rs) 19 2 = some (some (.ref 22)) := rfl
theorem kk20 : gkd (gSH ++ rs) 20 = 0 := rfl
theorem kl20 : gln (gSH ++ rs) 20 = 47 := rfl
theorem kk21 : gkd (gSH ++ rs) 21 = 0 := rfl
theorem kl21 : gln (gSH ++ rs) 21 = 12 := rfl
theorem kk22 : gkd (gSH ++ rs) 22 = 0 := rfl
theorem kl22 : gln (gSH ++ rs) 22 = 7 := rfl
theorem kc23 : gci (gSH ++ rs) 23 = some 0 := rfl
theorem ks23_0 : gsl (gSH ++ rs) 23 0 = some (some (.ref 24)) := rfl
theorem ks23_1 : gsl (gSH ++ rs) 23 1 = some (none) := rfl
theorem ks23_2 : gsl (gSH ++ rs) 23 2 = some (none) := rfl
theorem kk24 : gkd (gSH ++ rs) 24 = 0 := rfl
theorem kl24 : gln (gSH ++ rs) 24 = 1128 := rfl
theorem kk25 : gkd (gSH ++ rs) 25 = 0 := rfl
theorem kl25 : gln (gSH ++ rs) 25 = 94 := rfl
theorem kk26 : gkd (gSH ++ rs) 26 = 1 := rfl
theorem kl26 : gln (gSH ++ rs) 26 = 2 := rfl
theorem kc27 : gci (gSH ++ rs) 27 = some 1 := rfl
theorem ks27_0 : gsl (gSH ++ rs) 27 0 = some (some (.ref 28)) := rfl
theorem ks27_1 : gsl (gSH ++ rs) 27 1 = some (none) := rfl
theorem kk28 : gkd (gSH ++ rs) 28 = 0 := rfl
theorem kl28 : gln (gSH ++ rs) 28 = 16 := rfl
theorem kc29 : gci (gSH ++ rs) 29 = some 7 := rfl
theorem ks29_0 : gsl (gSH ++ rs) 29 0 = some (some (.ref 30)) := rfl
theorem ks29_1 : gsl (gSH ++ rs) 29 1 = some (some (.ref 31)) := rfl
theorem ks29_2 : gsl (gSH ++ rs) 29 2 = some (some (.ref 32)) := rfl
theorem ks29_3 : gsl (gSH ++ rs) 29 3 = some (none) := rfl
theorem ks29_4 : gsl (gSH ++ rs) 29 4 = some (none) := rfl
theorem ks29_5 : gsl (gSH ++ rs) 29 5 = some (some (.ref 33)) := rfl
theorem ks29_6 : gsl (gSH ++ rs) 29 6 = some (some (.ref 34)) := rfl
theorem ks29_7 : gsl (gSH ++ rs) 29 7 = some (some (.ref 35)) := rfl
theorem ks29_8 : gsl (gSH ++ rs) 29 8 = some (none) := rfl
theorem ks29_9 : gsl (gSH ++ rs) 29 9 = some (none) := rfl
theorem ks29_10 : gsl (gSH ++ rs) 29 10 = some (none) := rfl
theorem ks29_11 : gsl (gSH ++ rs) 29 11 = some (none) := rfl
theorem ks29_12 : gsl (gSH ++ rs) 29 12 = some (none) := rfl
theorem ks29_13 : gsl (gSH ++ rs) 29 13 = some (none) := rfl
theorem ks29_14 : gsl (gSH ++ rs) 29 14 = some (none) := rfl
theorem ks29_15 : gsl (gSH ++ rs) 29 15 = some (some (.ref 36)) := rfl
theorem ks29_16 : gsl (gSH ++ rs) 29 16 = some (none) := rfl
theorem ks29_17 : gsl (gSH ++ rs) 29 17 = some (some (.ref 37)) := rfl
theorem ks29_18 : gsl (gSH ++ rs) 29 18 = some (some (.ref 38)) := rfl
theorem ks29_19 : gsl (gSH ++ rs) 29 19 = some (none) := rfl
theorem ks29_20 : gsl (gSH ++ rs) 29 20 = some (some (.ref 39)) := rfl
theorem ks29_21 : gsl (gSH ++ rs) 29 21 = some (some (.ref 40)) := rfl
theorem ks29_22 : gsl (gSH ++ rs) 29 22 = some (some (.ref 41)) := rfl
theorem ks29_23 : gsl (gSH ++ rs) 29 23 = some (some (.ref 42)) := rfl
theorem ks29_24 : gsl (gSH ++ rs) 29 24 = some (none) := rfl
theorem kk30 : gkd (gSH ++ rs) 30 = 0 := rfl
theorem kl30 : gln (gSH ++ rs) 30 = 8 := rfl
theorem kk31 : gkd (gSH ++ rs) 31 = 0 := rfl
theorem kl31 : gln (gSH ++ rs) 31 = 8 := rfl
theorem kk32 : gkd (gSH ++ rs) 32 = 0 := rfl
theorem kl32 : gln (gSH ++ rs) 32 = 320 := rfl
theorem kk33 : gkd (gSH ++ rs) 33 = 0 := rfl
theorem kl33 : gln (gSH ++ rs) 33 = 46 := rfl
theorem kk34 : gkd (gSH ++ rs) 34 = 0 := rfl
theorem kl34 : gln (gSH ++ rs) 34 = 40 := rfl
theorem kk35 : gkd (gSH ++ rs) 35 = 0 := rfl
theorem kl35 : gln (gSH ++ rs) 35 = 120 := rfl
theorem kk36 : gkd (gSH ++ rs) 36 = 0 := rfl
theorem kl36 : gln (gSH ++ rs) 36 = 46 := rfl
theorem kk37 : gkd (gSH ++ rs) 37 = 0 := rfl
theorem kl37 : gln (gSH ++ rs) 37 = 7 := rfl
theorem kk38 : gkd (gSH ++ rs) 38 = 0 := rfl
theorem kl38 : gln (gSH ++ rs) 38 = 1104 := rfl
theorem kk39 : gkd (gSH ++ rs) 39 = 0 := rfl
theorem kl39 : gln (gSH ++ rs) 39 = 46 := rfl
theorem kk40 : gkd (gSH ++ rs) 40 = 1 := rfl
theorem kl40 : gln (gSH ++ rs) 40 = 2 := rfl
theorem kk41 : gkd (gSH ++ rs) 41 = 0 := rfl
theorem kl41 : gln (gSH ++ rs) 41 = 92 := rfl
theorem kk42 : gkd (gSH ++ rs) 42 = 0 := rfl
theorem kl42 : gln (gSH ++ rs) 42 = 16 := rfl
theorem krf {r : Nat} (h : r < 8) : grf (gSH ++ rs) 2 r = some (3 + r) := by
  rcases (show r = 0 ∨ r = 1 ∨ r = 2 ∨ r = 3 ∨ r = 4 ∨ r = 5 ∨ r = 6 ∨ r = 7 by omega) with rfl | rfl | rfl | rfl | rfl | rfl | rfl | rfl <;> rfl
theorem kki {r : Nat} (h : r < 8) : gkd (gSH ++ rs) (3 + r) = 0 := by
  rcases (show r = 0 ∨ r = 1 ∨ r = 2 ∨ r = 3 ∨ r = 4 ∨ r = 5 ∨ r = 6 ∨ r = 7 by omega) with rfl | rfl | rfl | rfl | rfl | rfl | rfl | rfl <;> rfl
theorem kli {r : Nat} (h : r < 8) : gln (gSH ++ rs) (3 + r) = 40 := by
  rcases (show r = 0 ∨ r = 1 ∨ r = 2 ∨ r = 3 ∨ r = 4 ∨ r = 5 ∨ r = 6 ∨ r = 7 by omega) with rfl | rfl | rfl | rfl | rfl | rfl | rfl | rfl <;> rfl
end GSH
