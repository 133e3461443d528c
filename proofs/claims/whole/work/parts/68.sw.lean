theorem q_so_t {pc t : Nat} {o : Int} {X : Option Int} {F : Nat → q_O} (hx : X = some o) (ht : x_bj pc o = some t) : q_so pc X F = F t := by
  rw [hx]
  exact q_so_of ht
theorem q_ts_d {dflt lo hi : Int} {offs : Array Int} {v : Int} (hv : q_R v) (h : v < lo ∨ hi < v) : x_tsw dflt lo hi offs (q_i v) = some dflt := by
  unfold x_tsw
  rw [q_ti hv]
  by_cases h1 : v < lo
  · rw [if_pos h1]
  · rw [if_neg h1, if_pos (h.resolve_left h1)]
section M68
variable {ls st : List Value} {h : x_H}
theorem ts708_6_0 : x_run 708 6 ls (.int (q_i 0) :: st) h = x_run 708 48 ls st h := by
  rw [e708_6]
  exact q_so_t (o := 42) (by decide) rfl
theorem ts708_6_1 : x_run 708 6 ls (.int (q_i 1) :: st) h = x_run 708 66 ls st h := by
  rw [e708_6]
  exact q_so_t (o := 60) (by decide) rfl
theorem ts708_6_2 : x_run 708 6 ls (.int (q_i 2) :: st) h = x_run 708 76 ls st h := by
  rw [e708_6]
  exact q_so_t (o := 70) (by decide) rfl
theorem ts708_6_3 : x_run 708 6 ls (.int (q_i 3) :: st) h = x_run 708 94 ls st h := by
  rw [e708_6]
  exact q_so_t (o := 88) (by decide) rfl
theorem ts708_6_4 : x_run 708 6 ls (.int (q_i 4) :: st) h = x_run 708 104 ls st h := by
  rw [e708_6]
  exact q_so_t (o := 98) (by decide) rfl
theorem ts708_6_5 : x_run 708 6 ls (.int (q_i 5) :: st) h = x_run 708 114 ls st h := by
  rw [e708_6]
  exact q_so_t (o := 108) (by decide) rfl
theorem ts708_6_6 : x_run 708 6 ls (.int (q_i 6) :: st) h = x_run 708 124 ls st h := by
  rw [e708_6]
  exact q_so_t (o := 118) (by decide) rfl
theorem ts708_6_d {v : Int} (hv : q_R v) (hd : v < 0 ∨ 6 < v) : x_run 708 6 ls (.int (q_i v) :: st) h = x_run 708 134 ls st h := by
  rw [e708_6]
  exact q_so_t (q_ts_d hv hd) rfl
theorem ts730_1_0 : x_run 730 1 ls (.int (q_i 0) :: st) h = x_run 730 56 ls st h := by
  rw [e730_1]
  exact q_so_t (o := 55) (by decide) rfl
theorem ts730_1_1 : x_run 730 1 ls (.int (q_i 1) :: st) h = x_run 730 64 ls st h := by
  rw [e730_1]
  exact q_so_t (o := 63) (by decide) rfl
theorem ts730_1_2 : x_run 730 1 ls (.int (q_i 2) :: st) h = x_run 730 72 ls st h := by
  rw [e730_1]
  exact q_so_t (o := 71) (by decide) rfl
theorem ts730_1_3 : x_run 730 1 ls (.int (q_i 3) :: st) h = x_run 730 87 ls st h := by
  rw [e730_1]
  exact q_so_t (o := 86) (by decide) rfl
theorem ts730_1_4 : x_run 730 1 ls (.int (q_i 4) :: st) h = x_run 730 95 ls st h := by
  rw [e730_1]
  exact q_so_t (o := 94) (by decide) rfl
theorem ts730_1_5 : x_run 730 1 ls (.int (q_i 5) :: st) h = x_run 730 104 ls st h := by
  rw [e730_1]
  exact q_so_t (o := 103) (by decide) rfl
theorem ts730_1_6 : x_run 730 1 ls (.int (q_i 6) :: st) h = x_run 730 119 ls st h := by
  rw [e730_1]
  exact q_so_t (o := 118) (by decide) rfl
theorem ts730_1_7 : x_run 730 1 ls (.int (q_i 7) :: st) h = x_run 730 134 ls st h := by
  rw [e730_1]
  exact q_so_t (o := 133) (by decide) rfl
theorem ts730_1_8 : x_run 730 1 ls (.int (q_i 8) :: st) h = x_run 730 149 ls st h := by
  rw [e730_1]
  exact q_so_t (o := 148) (by decide) rfl
theorem ts730_1_9 : x_run 730 1 ls (.int (q_i 9) :: st) h = x_run 730 157 ls st h := by
  rw [e730_1]
  exact q_so_t (o := 156) (by decide) rfl
theorem ts730_1_d {v : Int} (hv : q_R v) (hd : v < 0 ∨ 9 < v) : x_run 730 1 ls (.int (q_i v) :: st) h = x_run 730 165 ls st h := by
  rw [e730_1]
  exact q_so_t (q_ts_d hv hd) rfl
theorem ts741_6_0 : x_run 741 6 ls (.int (q_i 0) :: st) h = x_run 741 36 ls st h := by
  rw [e741_6]
  exact q_so_t (o := 30) (by decide) rfl
theorem ts741_6_1 : x_run 741 6 ls (.int (q_i 1) :: st) h = x_run 741 51 ls st h := by
  rw [e741_6]
  exact q_so_t (o := 45) (by decide) rfl
theorem ts741_6_2 : x_run 741 6 ls (.int (q_i 2) :: st) h = x_run 741 66 ls st h := by
  rw [e741_6]
  exact q_so_t (o := 60) (by decide) rfl
theorem ts741_6_3 : x_run 741 6 ls (.int (q_i 3) :: st) h = x_run 741 81 ls st h := by
  rw [e741_6]
  exact q_so_t (o := 75) (by decide) rfl
theorem ts741_6_d {v : Int} (hv : q_R v) (hd : v < 0 ∨ 3 < v) : x_run 741 6 ls (.int (q_i v) :: st) h = x_run 741 98 ls st h := by
  rw [e741_6]
  exact q_so_t (q_ts_d hv hd) rfl
theorem ts816_6_0 : x_run 816 6 ls (.int (q_i 0) :: st) h = x_run 816 36 ls st h := by
  rw [e816_6]
  exact q_so_t (o := 30) (by decide) rfl
theorem ts816_6_1 : x_run 816 6 ls (.int (q_i 1) :: st) h = x_run 816 52 ls st h := by
  rw [e816_6]
  exact q_so_t (o := 46) (by decide) rfl
theorem ts816_6_2 : x_run 816 6 ls (.int (q_i 2) :: st) h = x_run 816 69 ls st h := by
  rw [e816_6]
  exact q_so_t (o := 63) (by decide) rfl
theorem ts816_6_3 : x_run 816 6 ls (.int (q_i 3) :: st) h = x_run 816 84 ls st h := by
  rw [e816_6]
  exact q_so_t (o := 78) (by decide) rfl
theorem ts816_6_d {v : Int} (hv : q_R v) (hd : v < 0 ∨ 3 < v) : x_run 816 6 ls (.int (q_i v) :: st) h = x_run 816 101 ls st h := by
  rw [e816_6]
  exact q_so_t (q_ts_d hv hd) rfl
theorem ts843_37_0 : x_run 843 37 ls (.int (q_i 0) :: st) h = x_run 843 76 ls st h := by
  rw [e843_37]
  exact q_so_t (o := 39) (by decide) rfl
theorem ts843_37_1 : x_run 843 37 ls (.int (q_i 1) :: st) h = x_run 843 83 ls st h := by
  rw [e843_37]
  exact q_so_t (o := 46) (by decide) rfl
theorem ts843_37_2 : x_run 843 37 ls (.int (q_i 2) :: st) h = x_run 843 90 ls st h := by
  rw [e843_37]
  exact q_so_t (o := 53) (by decide) rfl
theorem ts843_37_3 : x_run 843 37 ls (.int (q_i 3) :: st) h = x_run 843 98 ls st h := by
  rw [e843_37]
  exact q_so_t (o := 61) (by decide) rfl
theorem ts843_37_4 : x_run 843 37 ls (.int (q_i 4) :: st) h = x_run 843 106 ls st h := by
  rw [e843_37]
  exact q_so_t (o := 69) (by decide) rfl
theorem ts843_37_5 : x_run 843 37 ls (.int (q_i 5) :: st) h = x_run 843 112 ls st h := by
  rw [e843_37]
  exact q_so_t (o := 75) (by decide) rfl
theorem ts843_37_d {v : Int} (hv : q_R v) (hd : v < 0 ∨ 5 < v) : x_run 843 37 ls (.int (q_i v) :: st) h = x_run 843 118 ls st h := by
  rw [e843_37]
  exact q_so_t (q_ts_d hv hd) rfl
theorem ts877_25_0 : x_run 877 25 ls (.int (q_i 0) :: st) h = x_run 877 76 ls st h := by
  rw [e877_25]
  exact q_so_t (o := 51) (by decide) rfl
theorem ts877_25_1 : x_run 877 25 ls (.int (q_i 1) :: st) h = x_run 877 83 ls st h := by
  rw [e877_25]
  exact q_so_t (o := 58) (by decide) rfl
theorem ts877_25_2 : x_run 877 25 ls (.int (q_i 2) :: st) h = x_run 877 90 ls st h := by
  rw [e877_25]
  exact q_so_t (o := 65) (by decide) rfl
theorem ts877_25_3 : x_run 877 25 ls (.int (q_i 3) :: st) h = x_run 877 96 ls st h := by
  rw [e877_25]
  exact q_so_t (o := 71) (by decide) rfl
theorem ts877_25_4 : x_run 877 25 ls (.int (q_i 4) :: st) h = x_run 877 101 ls st h := by
  rw [e877_25]
  exact q_so_t (o := 76) (by decide) rfl
theorem ts877_25_5 : x_run 877 25 ls (.int (q_i 5) :: st) h = x_run 877 106 ls st h := by
  rw [e877_25]
  exact q_so_t (o := 81) (by decide) rfl
theorem ts877_25_6 : x_run 877 25 ls (.int (q_i 6) :: st) h = x_run 877 111 ls st h := by
  rw [e877_25]
  exact q_so_t (o := 86) (by decide) rfl
theorem ts877_25_7 : x_run 877 25 ls (.int (q_i 7) :: st) h = x_run 877 118 ls st h := by
  rw [e877_25]
  exact q_so_t (o := 93) (by decide) rfl
theorem ts877_25_8 : x_run 877 25 ls (.int (q_i 8) :: st) h = x_run 877 125 ls st h := by
  rw [e877_25]
  exact q_so_t (o := 100) (by decide) rfl
theorem ts877_25_d {v : Int} (hv : q_R v) (hd : v < 0 ∨ 8 < v) : x_run 877 25 ls (.int (q_i v) :: st) h = x_run 877 130 ls st h := by
  rw [e877_25]
  exact q_so_t (q_ts_d hv hd) rfl
theorem ts928_44_0 : x_run 928 44 ls (.int (q_i 0) :: st) h = x_run 928 192 ls st h := by
  rw [e928_44]
  exact q_so_t (o := 148) (by decide) rfl
theorem ts928_44_1 : x_run 928 44 ls (.int (q_i 1) :: st) h = x_run 928 264 ls st h := by
  rw [e928_44]
  exact q_so_t (o := 220) (by decide) rfl
theorem ts928_44_2 : x_run 928 44 ls (.int (q_i 2) :: st) h = x_run 928 344 ls st h := by
  rw [e928_44]
  exact q_so_t (o := 300) (by decide) rfl
theorem ts928_44_3 : x_run 928 44 ls (.int (q_i 3) :: st) h = x_run 928 424 ls st h := by
  rw [e928_44]
  exact q_so_t (o := 380) (by decide) rfl
theorem ts928_44_4 : x_run 928 44 ls (.int (q_i 4) :: st) h = x_run 928 504 ls st h := by
  rw [e928_44]
  exact q_so_t (o := 460) (by decide) rfl
theorem ts928_44_5 : x_run 928 44 ls (.int (q_i 5) :: st) h = x_run 928 560 ls st h := by
  rw [e928_44]
  exact q_so_t (o := 516) (by decide) rfl
theorem ts928_44_6 : x_run 928 44 ls (.int (q_i 6) :: st) h = x_run 928 616 ls st h := by
  rw [e928_44]
  exact q_so_t (o := 572) (by decide) rfl
theorem ts928_44_7 : x_run 928 44 ls (.int (q_i 7) :: st) h = x_run 928 672 ls st h := by
  rw [e928_44]
  exact q_so_t (o := 628) (by decide) rfl
theorem ts928_44_8 : x_run 928 44 ls (.int (q_i 8) :: st) h = x_run 928 740 ls st h := by
  rw [e928_44]
  exact q_so_t (o := 696) (by decide) rfl
theorem ts928_44_9 : x_run 928 44 ls (.int (q_i 9) :: st) h = x_run 928 808 ls st h := by
  rw [e928_44]
  exact q_so_t (o := 764) (by decide) rfl
theorem ts928_44_10 : x_run 928 44 ls (.int (q_i 10) :: st) h = x_run 928 888 ls st h := by
  rw [e928_44]
  exact q_so_t (o := 844) (by decide) rfl
theorem ts928_44_11 : x_run 928 44 ls (.int (q_i 11) :: st) h = x_run 928 963 ls st h := by
  rw [e928_44]
  exact q_so_t (o := 919) (by decide) rfl
theorem ts928_44_12 : x_run 928 44 ls (.int (q_i 12) :: st) h = x_run 928 1055 ls st h := by
  rw [e928_44]
  exact q_so_t (o := 1011) (by decide) rfl
theorem ts928_44_13 : x_run 928 44 ls (.int (q_i 13) :: st) h = x_run 928 1111 ls st h := by
  rw [e928_44]
  exact q_so_t (o := 1067) (by decide) rfl
theorem ts928_44_14 : x_run 928 44 ls (.int (q_i 14) :: st) h = x_run 928 1167 ls st h := by
  rw [e928_44]
  exact q_so_t (o := 1123) (by decide) rfl
theorem ts928_44_15 : x_run 928 44 ls (.int (q_i 15) :: st) h = x_run 928 1235 ls st h := by
  rw [e928_44]
  exact q_so_t (o := 1191) (by decide) rfl
theorem ts928_44_16 : x_run 928 44 ls (.int (q_i 16) :: st) h = x_run 928 1291 ls st h := by
  rw [e928_44]
  exact q_so_t (o := 1247) (by decide) rfl
theorem ts928_44_17 : x_run 928 44 ls (.int (q_i 17) :: st) h = x_run 928 1347 ls st h := by
  rw [e928_44]
  exact q_so_t (o := 1303) (by decide) rfl
theorem ts928_44_18 : x_run 928 44 ls (.int (q_i 18) :: st) h = x_run 928 1360 ls st h := by
  rw [e928_44]
  exact q_so_t (o := 1316) (by decide) rfl
theorem ts928_44_19 : x_run 928 44 ls (.int (q_i 19) :: st) h = x_run 928 1373 ls st h := by
  rw [e928_44]
  exact q_so_t (o := 1329) (by decide) rfl
theorem ts928_44_20 : x_run 928 44 ls (.int (q_i 20) :: st) h = x_run 928 1429 ls st h := by
  rw [e928_44]
  exact q_so_t (o := 1385) (by decide) rfl
theorem ts928_44_21 : x_run 928 44 ls (.int (q_i 21) :: st) h = x_run 928 1485 ls st h := by
  rw [e928_44]
  exact q_so_t (o := 1441) (by decide) rfl
theorem ts928_44_22 : x_run 928 44 ls (.int (q_i 22) :: st) h = x_run 928 1543 ls st h := by
  rw [e928_44]
  exact q_so_t (o := 1499) (by decide) rfl
theorem ts928_44_23 : x_run 928 44 ls (.int (q_i 23) :: st) h = x_run 928 1587 ls st h := by
  rw [e928_44]
  exact q_so_t (o := 1543) (by decide) rfl
theorem ts928_44_24 : x_run 928 44 ls (.int (q_i 24) :: st) h = x_run 928 1600 ls st h := by
  rw [e928_44]
  exact q_so_t (o := 1556) (by decide) rfl
theorem ts928_44_25 : x_run 928 44 ls (.int (q_i 25) :: st) h = x_run 928 1656 ls st h := by
  rw [e928_44]
  exact q_so_t (o := 1612) (by decide) rfl
theorem ts928_44_26 : x_run 928 44 ls (.int (q_i 26) :: st) h = x_run 928 1724 ls st h := by
  rw [e928_44]
  exact q_so_t (o := 1680) (by decide) rfl
theorem ts928_44_27 : x_run 928 44 ls (.int (q_i 27) :: st) h = x_run 928 1780 ls st h := by
  rw [e928_44]
  exact q_so_t (o := 1736) (by decide) rfl
theorem ts928_44_28 : x_run 928 44 ls (.int (q_i 28) :: st) h = x_run 928 1846 ls st h := by
  rw [e928_44]
  exact q_so_t (o := 1802) (by decide) rfl
theorem ts928_44_29 : x_run 928 44 ls (.int (q_i 29) :: st) h = x_run 928 1887 ls st h := by
  rw [e928_44]
  exact q_so_t (o := 1843) (by decide) rfl
theorem ts928_44_30 : x_run 928 44 ls (.int (q_i 30) :: st) h = x_run 928 1943 ls st h := by
  rw [e928_44]
  exact q_so_t (o := 1899) (by decide) rfl
theorem ts928_44_31 : x_run 928 44 ls (.int (q_i 31) :: st) h = x_run 928 1987 ls st h := by
  rw [e928_44]
  exact q_so_t (o := 1943) (by decide) rfl
theorem ts928_44_32 : x_run 928 44 ls (.int (q_i 32) :: st) h = x_run 928 2000 ls st h := by
  rw [e928_44]
  exact q_so_t (o := 1956) (by decide) rfl
theorem ts928_44_d {v : Int} (hv : q_R v) (hd : v < 0 ∨ 32 < v) : x_run 928 44 ls (.int (q_i v) :: st) h = x_run 928 2044 ls st h := by
  rw [e928_44]
  exact q_so_t (q_ts_d hv hd) rfl
end M68
