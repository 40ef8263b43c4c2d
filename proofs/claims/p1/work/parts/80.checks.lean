theorem xi_ok0 : xi_okM xi_ms xi_m0 = true := by decide +kernel
theorem xi_ok1 : xi_okM xi_ms xi_m1 = true := by decide +kernel
theorem xi_ok2 : xi_okM xi_ms xi_m2 = true := by decide +kernel
theorem xi_ok3 : xi_okM xi_ms xi_m3 = true := by decide +kernel
theorem xi_ok4 : xi_okM xi_ms xi_m4 = true := by decide +kernel
theorem xi_ok5 : xi_okM xi_ms xi_m5 = true := by decide +kernel
theorem xi_ok6 : xi_okM xi_ms xi_m6 = true := by decide +kernel
theorem xi_ok7 : xi_okM xi_ms xi_m7 = true := by decide +kernel
theorem xi_ok8 : xi_okM xi_ms xi_m8 = true := by decide +kernel
theorem xi_ok9 : xi_okM xi_ms xi_m9 = true := by decide +kernel
theorem xi_ok10 : xi_okM xi_ms xi_m10 = true := by decide +kernel
theorem xi_ok11 : xi_okM xi_ms xi_m11 = true := by decide +kernel
theorem xi_ok12 : xi_okM xi_ms xi_m12 = true := by decide +kernel
theorem xi_ok13 : xi_okM xi_ms xi_m13 = true := by decide +kernel
theorem xi_ok14 : xi_okM xi_ms xi_m14 = true := by decide +kernel
theorem xi_ok15 : xi_okM xi_ms xi_m15 = true := by decide +kernel
theorem xi_ok16 : xi_okM xi_ms xi_m16 = true := by decide +kernel
theorem xi_ok17 : xi_okM xi_ms xi_m17 = true := by decide +kernel
theorem xi_ok18 : xi_okM xi_ms xi_m18 = true := by decide +kernel
theorem xi_ok19 : xi_okM xi_ms xi_m19 = true := by decide +kernel
theorem xi_ok20 : xi_okM xi_ms xi_m20 = true := by decide +kernel
theorem xi_ok21 : xi_okM xi_ms xi_m21 = true := by decide +kernel
theorem xi_ok22 : xi_okM xi_ms xi_m22 = true := by decide +kernel
theorem xi_ok23 : xi_okM xi_ms xi_m23 = true := by decide +kernel
theorem xi_ok24 : xi_okM xi_ms xi_m24 = true := by decide +kernel
theorem xi_ok25 : xi_okM xi_ms xi_m25 = true := by decide +kernel
theorem xi_ok26 : xi_okM xi_ms xi_m26 = true := by decide +kernel
theorem xi_ok27 : xi_okM xi_ms xi_m27 = true := by decide +kernel
theorem xi_ok28 : xi_okM xi_ms xi_m28 = true := by decide +kernel
theorem xi_ok29 : xi_okM xi_ms xi_m29 = true := by decide +kernel
theorem xi_ok30 : xi_okM xi_ms xi_m30 = true := by decide +kernel
theorem xi_ok31 : xi_okM xi_ms xi_m31 = true := by decide +kernel
theorem xi_ok32 : xi_okM xi_ms xi_m32 = true := by decide +kernel
theorem xi_ok33 : xi_okM xi_ms xi_m33 = true := by decide +kernel
theorem xi_ok34 : xi_okM xi_ms xi_m34 = true := by decide +kernel
theorem xi_ok35 : xi_okM xi_ms xi_m35 = true := by decide +kernel
theorem xi_ok36 : xi_okM xi_ms xi_m36 = true := by decide +kernel
theorem xi_ok37 : xi_okM xi_ms xi_m37 = true := by decide +kernel
theorem xi_ok38 : xi_okM xi_ms xi_m38 = true := by decide +kernel
theorem xi_ok39 : xi_okM xi_ms xi_m39 = true := by decide +kernel
theorem xi_ok40 : xi_okM xi_ms xi_m40 = true := by decide +kernel
theorem xi_ok41 : xi_okM xi_ms xi_m41 = true := by decide +kernel
theorem xi_ok42 : xi_okM xi_ms xi_m42 = true := by decide +kernel
theorem xi_ok43 : xi_okM xi_ms xi_m43 = true := by decide +kernel
theorem xi_ok44 : xi_okM xi_ms xi_m44 = true := by decide +kernel
theorem xi_ok45 : xi_okM xi_ms xi_m45 = true := by decide +kernel
theorem xi_ok46 : xi_okM xi_ms xi_m46 = true := by decide +kernel
theorem xi_ok47 : xi_okM xi_ms xi_m47 = true := by decide +kernel
theorem xi_ok48 : xi_okM xi_ms xi_m48 = true := by decide +kernel
theorem xi_ok49 : xi_okM xi_ms xi_m49 = true := by decide +kernel
theorem xi_ok50 : xi_okM xi_ms xi_m50 = true := by decide +kernel
theorem xi_ok51 : xi_okM xi_ms xi_m51 = true := by decide +kernel
theorem xi_ok52 : xi_okM xi_ms xi_m52 = true := by decide +kernel
theorem xi_ok53 : xi_okM xi_ms xi_m53 = true := by decide +kernel
theorem xi_ok54 : xi_okM xi_ms xi_m54 = true := by decide +kernel
theorem xi_ok55 : xi_okM xi_ms xi_m55 = true := by decide +kernel
theorem xi_ok56 : xi_okM xi_ms xi_m56 = true := by decide +kernel
theorem xi_ok57 : xi_okM xi_ms xi_m57 = true := by decide +kernel
theorem xi_ok58 : xi_okM xi_ms xi_m58 = true := by decide +kernel
theorem xi_ok59 : xi_okM xi_ms xi_m59 = true := by decide +kernel
theorem xi_ok60 : xi_okM xi_ms xi_m60 = true := by decide +kernel
theorem xi_ok61 : xi_okM xi_ms xi_m61 = true := by decide +kernel
theorem xi_ok62 : xi_okM xi_ms xi_m62 = true := by decide +kernel
theorem xi_ok63 : xi_okM xi_ms xi_m63 = true := by decide +kernel
theorem xi_ok64 : xi_okM xi_ms xi_m64 = true := by decide +kernel
theorem xi_ok65 : xi_okM xi_ms xi_m65 = true := by decide +kernel
theorem xi_ok66 : xi_okM xi_ms xi_m66 = true := by decide +kernel
theorem xi_ok67 : xi_okM xi_ms xi_m67 = true := by decide +kernel
theorem xi_ok68 : xi_okM xi_ms xi_m68 = true := by decide +kernel
theorem xi_ok69 : xi_okM xi_ms xi_m69 = true := by decide +kernel
theorem xi_ok70 : xi_okM xi_ms xi_m70 = true := by decide +kernel
theorem xi_ok71 : xi_okM xi_ms xi_m71 = true := by decide +kernel
theorem xi_ok72 : xi_okM xi_ms xi_m72 = true := by decide +kernel
theorem xi_ok73 : xi_okM xi_ms xi_m73 = true := by decide +kernel
theorem xi_ok74 : xi_okM xi_ms xi_m74 = true := by decide +kernel
theorem xi_ok75 : xi_okM xi_ms xi_m75 = true := by decide +kernel
theorem xi_ok76 : xi_okM xi_ms xi_m76 = true := by decide +kernel
theorem xi_ok77 : xi_okM xi_ms xi_m77 = true := by decide +kernel
theorem xi_ok78 : xi_okM xi_ms xi_m78 = true := by decide +kernel
theorem xi_ok79 : xi_okM xi_ms xi_m79 = true := by decide +kernel
theorem xi_ok80 : xi_okM xi_ms xi_m80 = true := by decide +kernel
theorem xi_ok81 : xi_okM xi_ms xi_m81 = true := by decide +kernel
theorem xi_ok82 : xi_okM xi_ms xi_m82 = true := by decide +kernel
theorem xi_ok83 : xi_okM xi_ms xi_m83 = true := by decide +kernel
theorem xi_oks : ∀ (y : Nat) (M : xi_M), xi_ms[y]? = some M → xi_okM xi_ms M = true
  | 0, _, h => by cases h; exact xi_ok0
  | 1, _, h => by cases h; exact xi_ok1
  | 2, _, h => by cases h; exact xi_ok2
  | 3, _, h => by cases h; exact xi_ok3
  | 4, _, h => by cases h; exact xi_ok4
  | 5, _, h => by cases h; exact xi_ok5
  | 6, _, h => by cases h; exact xi_ok6
  | 7, _, h => by cases h; exact xi_ok7
  | 8, _, h => by cases h; exact xi_ok8
  | 9, _, h => by cases h; exact xi_ok9
  | 10, _, h => by cases h; exact xi_ok10
  | 11, _, h => by cases h; exact xi_ok11
  | 12, _, h => by cases h; exact xi_ok12
  | 13, _, h => by cases h; exact xi_ok13
  | 14, _, h => by cases h; exact xi_ok14
  | 15, _, h => by cases h; exact xi_ok15
  | 16, _, h => by cases h; exact xi_ok16
  | 17, _, h => by cases h; exact xi_ok17
  | 18, _, h => by cases h; exact xi_ok18
  | 19, _, h => by cases h; exact xi_ok19
  | 20, _, h => by cases h; exact xi_ok20
  | 21, _, h => by cases h; exact xi_ok21
  | 22, _, h => by cases h; exact xi_ok22
  | 23, _, h => by cases h; exact xi_ok23
  | 24, _, h => by cases h; exact xi_ok24
  | 25, _, h => by cases h; exact xi_ok25
  | 26, _, h => by cases h; exact xi_ok26
  | 27, _, h => by cases h; exact xi_ok27
  | 28, _, h => by cases h; exact xi_ok28
  | 29, _, h => by cases h; exact xi_ok29
  | 30, _, h => by cases h; exact xi_ok30
  | 31, _, h => by cases h; exact xi_ok31
  | 32, _, h => by cases h; exact xi_ok32
  | 33, _, h => by cases h; exact xi_ok33
  | 34, _, h => by cases h; exact xi_ok34
  | 35, _, h => by cases h; exact xi_ok35
  | 36, _, h => by cases h; exact xi_ok36
  | 37, _, h => by cases h; exact xi_ok37
  | 38, _, h => by cases h; exact xi_ok38
  | 39, _, h => by cases h; exact xi_ok39
  | 40, _, h => by cases h; exact xi_ok40
  | 41, _, h => by cases h; exact xi_ok41
  | 42, _, h => by cases h; exact xi_ok42
  | 43, _, h => by cases h; exact xi_ok43
  | 44, _, h => by cases h; exact xi_ok44
  | 45, _, h => by cases h; exact xi_ok45
  | 46, _, h => by cases h; exact xi_ok46
  | 47, _, h => by cases h; exact xi_ok47
  | 48, _, h => by cases h; exact xi_ok48
  | 49, _, h => by cases h; exact xi_ok49
  | 50, _, h => by cases h; exact xi_ok50
  | 51, _, h => by cases h; exact xi_ok51
  | 52, _, h => by cases h; exact xi_ok52
  | 53, _, h => by cases h; exact xi_ok53
  | 54, _, h => by cases h; exact xi_ok54
  | 55, _, h => by cases h; exact xi_ok55
  | 56, _, h => by cases h; exact xi_ok56
  | 57, _, h => by cases h; exact xi_ok57
  | 58, _, h => by cases h; exact xi_ok58
  | 59, _, h => by cases h; exact xi_ok59
  | 60, _, h => by cases h; exact xi_ok60
  | 61, _, h => by cases h; exact xi_ok61
  | 62, _, h => by cases h; exact xi_ok62
  | 63, _, h => by cases h; exact xi_ok63
  | 64, _, h => by cases h; exact xi_ok64
  | 65, _, h => by cases h; exact xi_ok65
  | 66, _, h => by cases h; exact xi_ok66
  | 67, _, h => by cases h; exact xi_ok67
  | 68, _, h => by cases h; exact xi_ok68
  | 69, _, h => by cases h; exact xi_ok69
  | 70, _, h => by cases h; exact xi_ok70
  | 71, _, h => by cases h; exact xi_ok71
  | 72, _, h => by cases h; exact xi_ok72
  | 73, _, h => by cases h; exact xi_ok73
  | 74, _, h => by cases h; exact xi_ok74
  | 75, _, h => by cases h; exact xi_ok75
  | 76, _, h => by cases h; exact xi_ok76
  | 77, _, h => by cases h; exact xi_ok77
  | 78, _, h => by cases h; exact xi_ok78
  | 79, _, h => by cases h; exact xi_ok79
  | 80, _, h => by cases h; exact xi_ok80
  | 81, _, h => by cases h; exact xi_ok81
  | 82, _, h => by cases h; exact xi_ok82
  | 83, _, h => by cases h; exact xi_ok83
  | y + 84, _, h => by simp [xi_ms] at h
