theorem nk_chk_k {cc : ByteArray} {kc : Nat → Option nk_I} {N : Nat} (a n : Nat) (hN : a + n = N) (h1 : nk_chk cc kc a = true) (h2 : nk_chkR cc kc a n = true) : nk_chk cc kc N = true := by
  subst hN
  exact nk_chk_j h1 h2
theorem cu_60 : nk_chk code kc_L 60 = true := nk_chk_k 0 60 rfl nk_chk_0 ck_L_0
theorem cu_120 : nk_chk code kc_L 120 = true := nk_chk_k 60 60 rfl cu_60 ck_L_60
theorem cu_180 : nk_chk code kc_L 180 = true := nk_chk_k 120 60 rfl cu_120 ck_L_120
theorem cu_240 : nk_chk code kc_L 240 = true := nk_chk_k 180 60 rfl cu_180 ck_L_180
theorem cu_300 : nk_chk code kc_L 300 = true := nk_chk_k 240 60 rfl cu_240 ck_L_240
theorem cu_360 : nk_chk code kc_L 360 = true := nk_chk_k 300 60 rfl cu_300 ck_L_300
theorem cu_420 : nk_chk code kc_L 420 = true := nk_chk_k 360 60 rfl cu_360 ck_L_360
theorem cu_480 : nk_chk code kc_L 480 = true := nk_chk_k 420 60 rfl cu_420 ck_L_420
theorem cu_540 : nk_chk code kc_L 540 = true := nk_chk_k 480 60 rfl cu_480 ck_L_480
theorem cu_600 : nk_chk code kc_L 600 = true := nk_chk_k 540 60 rfl cu_540 ck_L_540
theorem cu_660 : nk_chk code kc_L 660 = true := nk_chk_k 600 60 rfl cu_600 ck_L_600
theorem cu_720 : nk_chk code kc_L 720 = true := nk_chk_k 660 60 rfl cu_660 ck_L_660
theorem cu_780 : nk_chk code kc_L 780 = true := nk_chk_k 720 60 rfl cu_720 ck_L_720
theorem cu_840 : nk_chk code kc_L 840 = true := nk_chk_k 780 60 rfl cu_780 ck_L_780
theorem cu_900 : nk_chk code kc_L 900 = true := nk_chk_k 840 60 rfl cu_840 ck_L_840
theorem cu_960 : nk_chk code kc_L 960 = true := nk_chk_k 900 60 rfl cu_900 ck_L_900
theorem cu_1020 : nk_chk code kc_L 1020 = true := nk_chk_k 960 60 rfl cu_960 ck_L_960
theorem cu_1080 : nk_chk code kc_L 1080 = true := nk_chk_k 1020 60 rfl cu_1020 ck_L_1020
theorem cu_1140 : nk_chk code kc_L 1140 = true := nk_chk_k 1080 60 rfl cu_1080 ck_L_1080
theorem cu_1200 : nk_chk code kc_L 1200 = true := nk_chk_k 1140 60 rfl cu_1140 ck_L_1140
theorem cu_1260 : nk_chk code kc_L 1260 = true := nk_chk_k 1200 60 rfl cu_1200 ck_L_1200
theorem cu_1320 : nk_chk code kc_L 1320 = true := nk_chk_k 1260 60 rfl cu_1260 ck_L_1260
theorem cu_1380 : nk_chk code kc_L 1380 = true := nk_chk_k 1320 60 rfl cu_1320 ck_L_1320
theorem cu_1440 : nk_chk code kc_L 1440 = true := nk_chk_k 1380 60 rfl cu_1380 ck_L_1380
theorem cu_1500 : nk_chk code kc_L 1500 = true := nk_chk_k 1440 60 rfl cu_1440 ck_L_1440
theorem cu_1560 : nk_chk code kc_L 1560 = true := nk_chk_k 1500 60 rfl cu_1500 ck_L_1500
theorem cu_1620 : nk_chk code kc_L 1620 = true := nk_chk_k 1560 60 rfl cu_1560 ck_L_1560
theorem cu_1680 : nk_chk code kc_L 1680 = true := nk_chk_k 1620 60 rfl cu_1620 ck_L_1620
theorem cu_1740 : nk_chk code kc_L 1740 = true := nk_chk_k 1680 60 rfl cu_1680 ck_L_1680
theorem cu_1800 : nk_chk code kc_L 1800 = true := nk_chk_k 1740 60 rfl cu_1740 ck_L_1740
theorem cu_1810 : nk_chk code kc_L 1810 = true := nk_chk_k 1800 10 rfl cu_1800 ck_L_1800
theorem ck_L : nk_chk code kc_L 1810 = true := cu_1810
