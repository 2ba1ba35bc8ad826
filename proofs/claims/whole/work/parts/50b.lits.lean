/-! sizes against written numbers -/
theorem nle_0 : True := trivial
theorem gle_0 {n : Nat} (h : 0 ≤ n) (hn : n < 2 ^ 31) : (0 : Int32) ≤ nI n := nI_le (a := 0) h hn
theorem le'_0 {n : Nat} (h : n ≤ 0) : nI n ≤ (0 : Int32) := nI_le (b := 0) h (by omega)
theorem nle'_0 {n : Nat} (h : 0 < n) (hn : n < 2 ^ 31) : ¬ nI n ≤ (0 : Int32) := nI_ge (a := 0) h hn
theorem lt'_0 : True := trivial
theorem nlt'_0 {n : Nat} (h : 0 ≤ n) (hn : n < 2 ^ 31) : ¬ nI n < (0 : Int32) := nI_nlt (b := 0) h hn
theorem glt_0 {n : Nat} (h : 0 < n) (hn : n < 2 ^ 31) : (0 : Int32) < nI n := nI_lt (a := 0) h hn
theorem nlt_0 {n : Nat} (h : n ≤ 0) : ¬ (0 : Int32) < nI n := nI_nlt (a := 0) h (by omega)
theorem eq_0 : nI 0 = (0 : Int32) := rfl
theorem ne_0 {n : Nat} (h : n ≠ 0) (hn : n < 2 ^ 31) : ¬ nI n = (0 : Int32) := nI_ne (b := 0) hn (by omega) h
theorem nle_1 {n : Nat} (h : n < 1) : ¬ (1 : Int32) ≤ nI n := nI_ge (b := 1) h (by omega)
theorem gle_1 {n : Nat} (h : 1 ≤ n) (hn : n < 2 ^ 31) : (1 : Int32) ≤ nI n := nI_le (a := 1) h hn
theorem le'_1 {n : Nat} (h : n ≤ 1) : nI n ≤ (1 : Int32) := nI_le (b := 1) h (by omega)
theorem nle'_1 {n : Nat} (h : 1 < n) (hn : n < 2 ^ 31) : ¬ nI n ≤ (1 : Int32) := nI_ge (a := 1) h hn
theorem lt'_1 {n : Nat} (h : n < 1) : nI n < (1 : Int32) := nI_lt (b := 1) h (by omega)
theorem nlt'_1 {n : Nat} (h : 1 ≤ n) (hn : n < 2 ^ 31) : ¬ nI n < (1 : Int32) := nI_nlt (b := 1) h hn
theorem glt_1 {n : Nat} (h : 1 < n) (hn : n < 2 ^ 31) : (1 : Int32) < nI n := nI_lt (a := 1) h hn
theorem nlt_1 {n : Nat} (h : n ≤ 1) : ¬ (1 : Int32) < nI n := nI_nlt (a := 1) h (by omega)
theorem eq_1 : nI 1 = (1 : Int32) := rfl
theorem ne_1 {n : Nat} (h : n ≠ 1) (hn : n < 2 ^ 31) : ¬ nI n = (1 : Int32) := nI_ne (b := 1) hn (by omega) h
theorem nle_2 {n : Nat} (h : n < 2) : ¬ (2 : Int32) ≤ nI n := nI_ge (b := 2) h (by omega)
theorem gle_2 {n : Nat} (h : 2 ≤ n) (hn : n < 2 ^ 31) : (2 : Int32) ≤ nI n := nI_le (a := 2) h hn
theorem le'_2 {n : Nat} (h : n ≤ 2) : nI n ≤ (2 : Int32) := nI_le (b := 2) h (by omega)
theorem nle'_2 {n : Nat} (h : 2 < n) (hn : n < 2 ^ 31) : ¬ nI n ≤ (2 : Int32) := nI_ge (a := 2) h hn
theorem lt'_2 {n : Nat} (h : n < 2) : nI n < (2 : Int32) := nI_lt (b := 2) h (by omega)
theorem nlt'_2 {n : Nat} (h : 2 ≤ n) (hn : n < 2 ^ 31) : ¬ nI n < (2 : Int32) := nI_nlt (b := 2) h hn
theorem glt_2 {n : Nat} (h : 2 < n) (hn : n < 2 ^ 31) : (2 : Int32) < nI n := nI_lt (a := 2) h hn
theorem nlt_2 {n : Nat} (h : n ≤ 2) : ¬ (2 : Int32) < nI n := nI_nlt (a := 2) h (by omega)
theorem eq_2 : nI 2 = (2 : Int32) := rfl
theorem ne_2 {n : Nat} (h : n ≠ 2) (hn : n < 2 ^ 31) : ¬ nI n = (2 : Int32) := nI_ne (b := 2) hn (by omega) h
theorem nle_3 {n : Nat} (h : n < 3) : ¬ (3 : Int32) ≤ nI n := nI_ge (b := 3) h (by omega)
theorem gle_3 {n : Nat} (h : 3 ≤ n) (hn : n < 2 ^ 31) : (3 : Int32) ≤ nI n := nI_le (a := 3) h hn
theorem le'_3 {n : Nat} (h : n ≤ 3) : nI n ≤ (3 : Int32) := nI_le (b := 3) h (by omega)
theorem nle'_3 {n : Nat} (h : 3 < n) (hn : n < 2 ^ 31) : ¬ nI n ≤ (3 : Int32) := nI_ge (a := 3) h hn
theorem lt'_3 {n : Nat} (h : n < 3) : nI n < (3 : Int32) := nI_lt (b := 3) h (by omega)
theorem nlt'_3 {n : Nat} (h : 3 ≤ n) (hn : n < 2 ^ 31) : ¬ nI n < (3 : Int32) := nI_nlt (b := 3) h hn
theorem glt_3 {n : Nat} (h : 3 < n) (hn : n < 2 ^ 31) : (3 : Int32) < nI n := nI_lt (a := 3) h hn
theorem nlt_3 {n : Nat} (h : n ≤ 3) : ¬ (3 : Int32) < nI n := nI_nlt (a := 3) h (by omega)
theorem eq_3 : nI 3 = (3 : Int32) := rfl
theorem ne_3 {n : Nat} (h : n ≠ 3) (hn : n < 2 ^ 31) : ¬ nI n = (3 : Int32) := nI_ne (b := 3) hn (by omega) h
theorem nle_9 {n : Nat} (h : n < 9) : ¬ (9 : Int32) ≤ nI n := nI_ge (b := 9) h (by omega)
theorem gle_9 {n : Nat} (h : 9 ≤ n) (hn : n < 2 ^ 31) : (9 : Int32) ≤ nI n := nI_le (a := 9) h hn
theorem le'_9 {n : Nat} (h : n ≤ 9) : nI n ≤ (9 : Int32) := nI_le (b := 9) h (by omega)
theorem nle'_9 {n : Nat} (h : 9 < n) (hn : n < 2 ^ 31) : ¬ nI n ≤ (9 : Int32) := nI_ge (a := 9) h hn
theorem lt'_9 {n : Nat} (h : n < 9) : nI n < (9 : Int32) := nI_lt (b := 9) h (by omega)
theorem nlt'_9 {n : Nat} (h : 9 ≤ n) (hn : n < 2 ^ 31) : ¬ nI n < (9 : Int32) := nI_nlt (b := 9) h hn
theorem glt_9 {n : Nat} (h : 9 < n) (hn : n < 2 ^ 31) : (9 : Int32) < nI n := nI_lt (a := 9) h hn
theorem nlt_9 {n : Nat} (h : n ≤ 9) : ¬ (9 : Int32) < nI n := nI_nlt (a := 9) h (by omega)
theorem eq_9 : nI 9 = (9 : Int32) := rfl
theorem ne_9 {n : Nat} (h : n ≠ 9) (hn : n < 2 ^ 31) : ¬ nI n = (9 : Int32) := nI_ne (b := 9) hn (by omega) h
theorem nle_10 {n : Nat} (h : n < 10) : ¬ (10 : Int32) ≤ nI n := nI_ge (b := 10) h (by omega)
theorem gle_10 {n : Nat} (h : 10 ≤ n) (hn : n < 2 ^ 31) : (10 : Int32) ≤ nI n := nI_le (a := 10) h hn
theorem le'_10 {n : Nat} (h : n ≤ 10) : nI n ≤ (10 : Int32) := nI_le (b := 10) h (by omega)
theorem nle'_10 {n : Nat} (h : 10 < n) (hn : n < 2 ^ 31) : ¬ nI n ≤ (10 : Int32) := nI_ge (a := 10) h hn
theorem lt'_10 {n : Nat} (h : n < 10) : nI n < (10 : Int32) := nI_lt (b := 10) h (by omega)
theorem nlt'_10 {n : Nat} (h : 10 ≤ n) (hn : n < 2 ^ 31) : ¬ nI n < (10 : Int32) := nI_nlt (b := 10) h hn
theorem glt_10 {n : Nat} (h : 10 < n) (hn : n < 2 ^ 31) : (10 : Int32) < nI n := nI_lt (a := 10) h hn
theorem nlt_10 {n : Nat} (h : n ≤ 10) : ¬ (10 : Int32) < nI n := nI_nlt (a := 10) h (by omega)
theorem eq_10 : nI 10 = (10 : Int32) := rfl
theorem ne_10 {n : Nat} (h : n ≠ 10) (hn : n < 2 ^ 31) : ¬ nI n = (10 : Int32) := nI_ne (b := 10) hn (by omega) h
theorem nle_12 {n : Nat} (h : n < 12) : ¬ (12 : Int32) ≤ nI n := nI_ge (b := 12) h (by omega)
theorem gle_12 {n : Nat} (h : 12 ≤ n) (hn : n < 2 ^ 31) : (12 : Int32) ≤ nI n := nI_le (a := 12) h hn
theorem le'_12 {n : Nat} (h : n ≤ 12) : nI n ≤ (12 : Int32) := nI_le (b := 12) h (by omega)
theorem nle'_12 {n : Nat} (h : 12 < n) (hn : n < 2 ^ 31) : ¬ nI n ≤ (12 : Int32) := nI_ge (a := 12) h hn
theorem lt'_12 {n : Nat} (h : n < 12) : nI n < (12 : Int32) := nI_lt (b := 12) h (by omega)
theorem nlt'_12 {n : Nat} (h : 12 ≤ n) (hn : n < 2 ^ 31) : ¬ nI n < (12 : Int32) := nI_nlt (b := 12) h hn
theorem glt_12 {n : Nat} (h : 12 < n) (hn : n < 2 ^ 31) : (12 : Int32) < nI n := nI_lt (a := 12) h hn
theorem nlt_12 {n : Nat} (h : n ≤ 12) : ¬ (12 : Int32) < nI n := nI_nlt (a := 12) h (by omega)
theorem eq_12 : nI 12 = (12 : Int32) := rfl
theorem ne_12 {n : Nat} (h : n ≠ 12) (hn : n < 2 ^ 31) : ¬ nI n = (12 : Int32) := nI_ne (b := 12) hn (by omega) h
theorem nle_28 {n : Nat} (h : n < 28) : ¬ (28 : Int32) ≤ nI n := nI_ge (b := 28) h (by omega)
theorem gle_28 {n : Nat} (h : 28 ≤ n) (hn : n < 2 ^ 31) : (28 : Int32) ≤ nI n := nI_le (a := 28) h hn
theorem le'_28 {n : Nat} (h : n ≤ 28) : nI n ≤ (28 : Int32) := nI_le (b := 28) h (by omega)
theorem nle'_28 {n : Nat} (h : 28 < n) (hn : n < 2 ^ 31) : ¬ nI n ≤ (28 : Int32) := nI_ge (a := 28) h hn
theorem lt'_28 {n : Nat} (h : n < 28) : nI n < (28 : Int32) := nI_lt (b := 28) h (by omega)
theorem nlt'_28 {n : Nat} (h : 28 ≤ n) (hn : n < 2 ^ 31) : ¬ nI n < (28 : Int32) := nI_nlt (b := 28) h hn
theorem glt_28 {n : Nat} (h : 28 < n) (hn : n < 2 ^ 31) : (28 : Int32) < nI n := nI_lt (a := 28) h hn
theorem nlt_28 {n : Nat} (h : n ≤ 28) : ¬ (28 : Int32) < nI n := nI_nlt (a := 28) h (by omega)
theorem eq_28 : nI 28 = (28 : Int32) := rfl
theorem ne_28 {n : Nat} (h : n ≠ 28) (hn : n < 2 ^ 31) : ¬ nI n = (28 : Int32) := nI_ne (b := 28) hn (by omega) h
theorem nle_30 {n : Nat} (h : n < 30) : ¬ (30 : Int32) ≤ nI n := nI_ge (b := 30) h (by omega)
theorem gle_30 {n : Nat} (h : 30 ≤ n) (hn : n < 2 ^ 31) : (30 : Int32) ≤ nI n := nI_le (a := 30) h hn
theorem le'_30 {n : Nat} (h : n ≤ 30) : nI n ≤ (30 : Int32) := nI_le (b := 30) h (by omega)
theorem nle'_30 {n : Nat} (h : 30 < n) (hn : n < 2 ^ 31) : ¬ nI n ≤ (30 : Int32) := nI_ge (a := 30) h hn
theorem lt'_30 {n : Nat} (h : n < 30) : nI n < (30 : Int32) := nI_lt (b := 30) h (by omega)
theorem nlt'_30 {n : Nat} (h : 30 ≤ n) (hn : n < 2 ^ 31) : ¬ nI n < (30 : Int32) := nI_nlt (b := 30) h hn
theorem glt_30 {n : Nat} (h : 30 < n) (hn : n < 2 ^ 31) : (30 : Int32) < nI n := nI_lt (a := 30) h hn
theorem nlt_30 {n : Nat} (h : n ≤ 30) : ¬ (30 : Int32) < nI n := nI_nlt (a := 30) h (by omega)
theorem eq_30 : nI 30 = (30 : Int32) := rfl
theorem ne_30 {n : Nat} (h : n ≠ 30) (hn : n < 2 ^ 31) : ¬ nI n = (30 : Int32) := nI_ne (b := 30) hn (by omega) h
theorem nle_40 {n : Nat} (h : n < 40) : ¬ (40 : Int32) ≤ nI n := nI_ge (b := 40) h (by omega)
theorem gle_40 {n : Nat} (h : 40 ≤ n) (hn : n < 2 ^ 31) : (40 : Int32) ≤ nI n := nI_le (a := 40) h hn
theorem le'_40 {n : Nat} (h : n ≤ 40) : nI n ≤ (40 : Int32) := nI_le (b := 40) h (by omega)
theorem nle'_40 {n : Nat} (h : 40 < n) (hn : n < 2 ^ 31) : ¬ nI n ≤ (40 : Int32) := nI_ge (a := 40) h hn
theorem lt'_40 {n : Nat} (h : n < 40) : nI n < (40 : Int32) := nI_lt (b := 40) h (by omega)
theorem nlt'_40 {n : Nat} (h : 40 ≤ n) (hn : n < 2 ^ 31) : ¬ nI n < (40 : Int32) := nI_nlt (b := 40) h hn
theorem glt_40 {n : Nat} (h : 40 < n) (hn : n < 2 ^ 31) : (40 : Int32) < nI n := nI_lt (a := 40) h hn
theorem nlt_40 {n : Nat} (h : n ≤ 40) : ¬ (40 : Int32) < nI n := nI_nlt (a := 40) h (by omega)
theorem eq_40 : nI 40 = (40 : Int32) := rfl
theorem ne_40 {n : Nat} (h : n ≠ 40) (hn : n < 2 ^ 31) : ¬ nI n = (40 : Int32) := nI_ne (b := 40) hn (by omega) h
theorem nle_82 {n : Nat} (h : n < 82) : ¬ (82 : Int32) ≤ nI n := nI_ge (b := 82) h (by omega)
theorem gle_82 {n : Nat} (h : 82 ≤ n) (hn : n < 2 ^ 31) : (82 : Int32) ≤ nI n := nI_le (a := 82) h hn
theorem le'_82 {n : Nat} (h : n ≤ 82) : nI n ≤ (82 : Int32) := nI_le (b := 82) h (by omega)
theorem nle'_82 {n : Nat} (h : 82 < n) (hn : n < 2 ^ 31) : ¬ nI n ≤ (82 : Int32) := nI_ge (a := 82) h hn
theorem lt'_82 {n : Nat} (h : n < 82) : nI n < (82 : Int32) := nI_lt (b := 82) h (by omega)
theorem nlt'_82 {n : Nat} (h : 82 ≤ n) (hn : n < 2 ^ 31) : ¬ nI n < (82 : Int32) := nI_nlt (b := 82) h hn
theorem glt_82 {n : Nat} (h : 82 < n) (hn : n < 2 ^ 31) : (82 : Int32) < nI n := nI_lt (a := 82) h hn
theorem nlt_82 {n : Nat} (h : n ≤ 82) : ¬ (82 : Int32) < nI n := nI_nlt (a := 82) h (by omega)
theorem eq_82 : nI 82 = (82 : Int32) := rfl
theorem ne_82 {n : Nat} (h : n ≠ 82) (hn : n < 2 ^ 31) : ¬ nI n = (82 : Int32) := nI_ne (b := 82) hn (by omega) h
theorem nle_200 {n : Nat} (h : n < 200) : ¬ (200 : Int32) ≤ nI n := nI_ge (b := 200) h (by omega)
theorem gle_200 {n : Nat} (h : 200 ≤ n) (hn : n < 2 ^ 31) : (200 : Int32) ≤ nI n := nI_le (a := 200) h hn
theorem le'_200 {n : Nat} (h : n ≤ 200) : nI n ≤ (200 : Int32) := nI_le (b := 200) h (by omega)
theorem nle'_200 {n : Nat} (h : 200 < n) (hn : n < 2 ^ 31) : ¬ nI n ≤ (200 : Int32) := nI_ge (a := 200) h hn
theorem lt'_200 {n : Nat} (h : n < 200) : nI n < (200 : Int32) := nI_lt (b := 200) h (by omega)
theorem nlt'_200 {n : Nat} (h : 200 ≤ n) (hn : n < 2 ^ 31) : ¬ nI n < (200 : Int32) := nI_nlt (b := 200) h hn
theorem glt_200 {n : Nat} (h : 200 < n) (hn : n < 2 ^ 31) : (200 : Int32) < nI n := nI_lt (a := 200) h hn
theorem nlt_200 {n : Nat} (h : n ≤ 200) : ¬ (200 : Int32) < nI n := nI_nlt (a := 200) h (by omega)
theorem eq_200 : nI 200 = (200 : Int32) := rfl
theorem ne_200 {n : Nat} (h : n ≠ 200) (hn : n < 2 ^ 31) : ¬ nI n = (200 : Int32) := nI_ne (b := 200) hn (by omega) h
theorem nle_300 {n : Nat} (h : n < 300) : ¬ (300 : Int32) ≤ nI n := nI_ge (b := 300) h (by omega)
theorem gle_300 {n : Nat} (h : 300 ≤ n) (hn : n < 2 ^ 31) : (300 : Int32) ≤ nI n := nI_le (a := 300) h hn
theorem le'_300 {n : Nat} (h : n ≤ 300) : nI n ≤ (300 : Int32) := nI_le (b := 300) h (by omega)
theorem nle'_300 {n : Nat} (h : 300 < n) (hn : n < 2 ^ 31) : ¬ nI n ≤ (300 : Int32) := nI_ge (a := 300) h hn
theorem lt'_300 {n : Nat} (h : n < 300) : nI n < (300 : Int32) := nI_lt (b := 300) h (by omega)
theorem nlt'_300 {n : Nat} (h : 300 ≤ n) (hn : n < 2 ^ 31) : ¬ nI n < (300 : Int32) := nI_nlt (b := 300) h hn
theorem glt_300 {n : Nat} (h : 300 < n) (hn : n < 2 ^ 31) : (300 : Int32) < nI n := nI_lt (a := 300) h hn
theorem nlt_300 {n : Nat} (h : n ≤ 300) : ¬ (300 : Int32) < nI n := nI_nlt (a := 300) h (by omega)
theorem eq_300 : nI 300 = (300 : Int32) := rfl
theorem ne_300 {n : Nat} (h : n ≠ 300) (hn : n < 2 ^ 31) : ¬ nI n = (300 : Int32) := nI_ne (b := 300) hn (by omega) h
theorem nle_360 {n : Nat} (h : n < 360) : ¬ (360 : Int32) ≤ nI n := nI_ge (b := 360) h (by omega)
theorem gle_360 {n : Nat} (h : 360 ≤ n) (hn : n < 2 ^ 31) : (360 : Int32) ≤ nI n := nI_le (a := 360) h hn
theorem le'_360 {n : Nat} (h : n ≤ 360) : nI n ≤ (360 : Int32) := nI_le (b := 360) h (by omega)
theorem nle'_360 {n : Nat} (h : 360 < n) (hn : n < 2 ^ 31) : ¬ nI n ≤ (360 : Int32) := nI_ge (a := 360) h hn
theorem lt'_360 {n : Nat} (h : n < 360) : nI n < (360 : Int32) := nI_lt (b := 360) h (by omega)
theorem nlt'_360 {n : Nat} (h : 360 ≤ n) (hn : n < 2 ^ 31) : ¬ nI n < (360 : Int32) := nI_nlt (b := 360) h hn
theorem glt_360 {n : Nat} (h : 360 < n) (hn : n < 2 ^ 31) : (360 : Int32) < nI n := nI_lt (a := 360) h hn
theorem nlt_360 {n : Nat} (h : n ≤ 360) : ¬ (360 : Int32) < nI n := nI_nlt (a := 360) h (by omega)
theorem eq_360 : nI 360 = (360 : Int32) := rfl
theorem ne_360 {n : Nat} (h : n ≠ 360) (hn : n < 2 ^ 31) : ¬ nI n = (360 : Int32) := nI_ne (b := 360) hn (by omega) h
theorem nle_398 {n : Nat} (h : n < 398) : ¬ (398 : Int32) ≤ nI n := nI_ge (b := 398) h (by omega)
theorem gle_398 {n : Nat} (h : 398 ≤ n) (hn : n < 2 ^ 31) : (398 : Int32) ≤ nI n := nI_le (a := 398) h hn
theorem le'_398 {n : Nat} (h : n ≤ 398) : nI n ≤ (398 : Int32) := nI_le (b := 398) h (by omega)
theorem nle'_398 {n : Nat} (h : 398 < n) (hn : n < 2 ^ 31) : ¬ nI n ≤ (398 : Int32) := nI_ge (a := 398) h hn
theorem lt'_398 {n : Nat} (h : n < 398) : nI n < (398 : Int32) := nI_lt (b := 398) h (by omega)
theorem nlt'_398 {n : Nat} (h : 398 ≤ n) (hn : n < 2 ^ 31) : ¬ nI n < (398 : Int32) := nI_nlt (b := 398) h hn
theorem glt_398 {n : Nat} (h : 398 < n) (hn : n < 2 ^ 31) : (398 : Int32) < nI n := nI_lt (a := 398) h hn
theorem nlt_398 {n : Nat} (h : n ≤ 398) : ¬ (398 : Int32) < nI n := nI_nlt (a := 398) h (by omega)
theorem eq_398 : nI 398 = (398 : Int32) := rfl
theorem ne_398 {n : Nat} (h : n ≠ 398) (hn : n < 2 ^ 31) : ¬ nI n = (398 : Int32) := nI_ne (b := 398) hn (by omega) h
theorem nle_400 {n : Nat} (h : n < 400) : ¬ (400 : Int32) ≤ nI n := nI_ge (b := 400) h (by omega)
theorem gle_400 {n : Nat} (h : 400 ≤ n) (hn : n < 2 ^ 31) : (400 : Int32) ≤ nI n := nI_le (a := 400) h hn
theorem le'_400 {n : Nat} (h : n ≤ 400) : nI n ≤ (400 : Int32) := nI_le (b := 400) h (by omega)
theorem nle'_400 {n : Nat} (h : 400 < n) (hn : n < 2 ^ 31) : ¬ nI n ≤ (400 : Int32) := nI_ge (a := 400) h hn
theorem lt'_400 {n : Nat} (h : n < 400) : nI n < (400 : Int32) := nI_lt (b := 400) h (by omega)
theorem nlt'_400 {n : Nat} (h : 400 ≤ n) (hn : n < 2 ^ 31) : ¬ nI n < (400 : Int32) := nI_nlt (b := 400) h hn
theorem glt_400 {n : Nat} (h : 400 < n) (hn : n < 2 ^ 31) : (400 : Int32) < nI n := nI_lt (a := 400) h hn
theorem nlt_400 {n : Nat} (h : n ≤ 400) : ¬ (400 : Int32) < nI n := nI_nlt (a := 400) h (by omega)
theorem eq_400 : nI 400 = (400 : Int32) := rfl
theorem ne_400 {n : Nat} (h : n ≠ 400) (hn : n < 2 ^ 31) : ¬ nI n = (400 : Int32) := nI_ne (b := 400) hn (by omega) h
theorem nle_3000 {n : Nat} (h : n < 3000) : ¬ (3000 : Int32) ≤ nI n := nI_ge (b := 3000) h (by omega)
theorem gle_3000 {n : Nat} (h : 3000 ≤ n) (hn : n < 2 ^ 31) : (3000 : Int32) ≤ nI n := nI_le (a := 3000) h hn
theorem le'_3000 {n : Nat} (h : n ≤ 3000) : nI n ≤ (3000 : Int32) := nI_le (b := 3000) h (by omega)
theorem nle'_3000 {n : Nat} (h : 3000 < n) (hn : n < 2 ^ 31) : ¬ nI n ≤ (3000 : Int32) := nI_ge (a := 3000) h hn
theorem lt'_3000 {n : Nat} (h : n < 3000) : nI n < (3000 : Int32) := nI_lt (b := 3000) h (by omega)
theorem nlt'_3000 {n : Nat} (h : 3000 ≤ n) (hn : n < 2 ^ 31) : ¬ nI n < (3000 : Int32) := nI_nlt (b := 3000) h hn
theorem glt_3000 {n : Nat} (h : 3000 < n) (hn : n < 2 ^ 31) : (3000 : Int32) < nI n := nI_lt (a := 3000) h hn
theorem nlt_3000 {n : Nat} (h : n ≤ 3000) : ¬ (3000 : Int32) < nI n := nI_nlt (a := 3000) h (by omega)
theorem eq_3000 : nI 3000 = (3000 : Int32) := rfl
theorem ne_3000 {n : Nat} (h : n ≠ 3000) (hn : n < 2 ^ 31) : ¬ nI n = (3000 : Int32) := nI_ne (b := 3000) hn (by omega) h
