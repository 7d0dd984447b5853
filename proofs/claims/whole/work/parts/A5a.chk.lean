/-! All entries are as checked. -/
set_option maxRecDepth 100000 in
theorem ck0 : chkL 0 0 cd0 = true := by decide +kernel
set_option maxRecDepth 100000 in
theorem ck1 : chkL 1 0 cd1 = true := by decide +kernel
set_option maxRecDepth 100000 in
theorem ck2 : chkL 2 0 cd2 = true := by decide +kernel
set_option maxRecDepth 100000 in
theorem ck3 : chkL 3 0 cd3 = true := by decide +kernel
set_option maxRecDepth 100000 in
theorem ck4 : chkL 4 0 cd4 = true := by decide +kernel
set_option maxRecDepth 100000 in
theorem ck5 : chkL 5 0 cd5 = true := by decide +kernel
set_option maxRecDepth 100000 in
theorem ck6 : chkL 6 0 cd6 = true := by decide +kernel
set_option maxRecDepth 100000 in
theorem ck7 : chkL 7 0 cd7 = true := by decide +kernel
set_option maxRecDepth 100000 in
theorem ck8 : chkL 8 0 cd8 = true := by decide +kernel
set_option maxRecDepth 100000 in
theorem ck9 : chkL 9 0 cd9 = true := by decide +kernel
set_option maxRecDepth 100000 in
theorem ck10 : chkL 10 0 cd10 = true := by decide +kernel
set_option maxRecDepth 100000 in
theorem ck11 : chkL 11 0 cd11 = true := by decide +kernel
set_option maxRecDepth 100000 in
theorem ck12 : chkL 12 0 cd12 = true := by decide +kernel
set_option maxRecDepth 100000 in
theorem ck13 : chkL 13 0 cd13 = true := by decide +kernel
set_option maxRecDepth 100000 in
theorem ck14 : chkL 14 0 cd14 = true := by decide +kernel
set_option maxRecDepth 100000 in
theorem ck15 : chkL 15 0 cd15 = true := by decide +kernel
set_option maxRecDepth 100000 in
theorem ck16 : chkL 16 0 cd16 = true := by decide +kernel
set_option maxRecDepth 100000 in
theorem ck17 : chkL 17 0 cd17 = true := by decide +kernel
set_option maxRecDepth 100000 in
theorem ck18 : chkL 18 0 cd18 = true := by decide +kernel
set_option maxRecDepth 100000 in
theorem ck19 : chkL 19 0 cd19 = true := by decide +kernel
set_option maxRecDepth 100000 in
theorem ck20 : chkL 20 0 cd20 = true := by decide +kernel
set_option maxRecDepth 100000 in
theorem ck21 : chkL 21 0 cd21 = true := by decide +kernel
set_option maxRecDepth 100000 in
theorem ck22 : chkL 22 0 cd22 = true := by decide +kernel
set_option maxRecDepth 100000 in
theorem ck23 : chkL 23 0 cd23 = true := by decide +kernel
set_option maxRecDepth 100000 in
theorem ck24 : chkL 24 0 cd24 = true := by decide +kernel
set_option maxRecDepth 100000 in
theorem ck25 : chkL 25 0 cd25 = true := by decide +kernel
set_option maxRecDepth 100000 in
theorem ck26 : chkL 26 0 cd26 = true := by decide +kernel
set_option maxRecDepth 100000 in
theorem ck27 : chkL 27 0 cd27 = true := by decide +kernel
set_option maxRecDepth 100000 in
theorem ck28 : chkL 28 0 cd28 = true := by decide +kernel
set_option maxRecDepth 100000 in
theorem ck29 : chkL 29 0 cd29 = true := by decide +kernel
set_option maxRecDepth 100000 in
theorem ck30 : chkL 30 0 cd30 = true := by decide +kernel
set_option maxRecDepth 100000 in
theorem ck31 : chkL 31 0 cd31 = true := by decide +kernel
set_option maxRecDepth 100000 in
theorem ck32 : chkL 32 0 cd32 = true := by decide +kernel
set_option maxRecDepth 100000 in
theorem ck33 : chkL 33 0 cd33 = true := by decide +kernel
set_option maxRecDepth 100000 in
theorem ck34 : chkL 34 0 cd34 = true := by decide +kernel
set_option maxRecDepth 100000 in
theorem ck35 : chkL 35 0 cd35 = true := by decide +kernel
set_option maxRecDepth 100000 in
theorem ck36 : chkL 36 0 cd36 = true := by decide +kernel
set_option maxRecDepth 100000 in
theorem ck37 : chkL 37 0 cd37 = true := by decide +kernel
set_option maxRecDepth 100000 in
theorem ck38 : chkL 38 0 cd38 = true := by decide +kernel
set_option maxRecDepth 100000 in
theorem ck39 : chkL 39 0 cd39 = true := by decide +kernel
set_option maxRecDepth 100000 in
theorem ck40 : chkL 40 0 cd40 = true := by decide +kernel
set_option maxRecDepth 100000 in
theorem ck41 : chkL 41 0 cd41 = true := by decide +kernel
set_option maxRecDepth 100000 in
theorem ck42 : chkL 42 0 cd42 = true := by decide +kernel
set_option maxRecDepth 100000 in
theorem ck43 : chkL 43 0 cd43 = true := by decide +kernel
set_option maxRecDepth 100000 in
theorem ck44 : chkL 44 0 cd44 = true := by decide +kernel
set_option maxRecDepth 100000 in
theorem ck45 : chkL 45 0 cd45 = true := by decide +kernel
set_option maxRecDepth 100000 in
theorem ck46 : chkL 46 0 cd46 = true := by decide +kernel
set_option maxRecDepth 100000 in
theorem ck47 : chkL 47 0 cd47 = true := by decide +kernel
set_option maxRecDepth 100000 in
theorem ck48 : chkL 48 0 cd48 = true := by decide +kernel
set_option maxRecDepth 100000 in
theorem ck49 : chkL 49 0 cd49 = true := by decide +kernel
set_option maxRecDepth 100000 in
theorem ck50 : chkL 50 0 cd50 = true := by decide +kernel
set_option maxRecDepth 100000 in
theorem ck51 : chkL 51 0 cd51 = true := by decide +kernel
set_option maxRecDepth 100000 in
theorem ck52 : chkL 52 0 cd52 = true := by decide +kernel
set_option maxRecDepth 100000 in
theorem ck53 : chkL 53 0 cd53 = true := by decide +kernel
set_option maxRecDepth 100000 in
theorem ck54 : chkL 54 0 cd54 = true := by decide +kernel
set_option maxRecDepth 100000 in
theorem ck55 : chkL 55 0 cd55 = true := by decide +kernel
set_option maxRecDepth 100000 in
theorem ck56 : chkL 56 0 cd56 = true := by decide +kernel
set_option maxRecDepth 100000 in
theorem ck57 : chkL 57 0 cd57 = true := by decide +kernel
set_option maxRecDepth 100000 in
theorem ck58 : chkL 58 0 cd58 = true := by decide +kernel
set_option maxRecDepth 100000 in
theorem ck59 : chkL 59 0 cd59 = true := by decide +kernel
set_option maxRecDepth 100000 in
theorem ck60 : chkL 60 0 cd60 = true := by decide +kernel
set_option maxRecDepth 100000 in
theorem ck61 : chkL 61 0 cd61 = true := by decide +kernel
set_option maxRecDepth 100000 in
theorem ck62 : chkL 62 0 cd62 = true := by decide +kernel
set_option maxRecDepth 100000 in
theorem ck63 : chkL 63 0 cd63 = true := by decide +kernel
set_option maxRecDepth 100000 in
theorem ck64 : chkL 64 0 cd64 = true := by decide +kernel
set_option maxRecDepth 100000 in
theorem ck65 : chkL 65 0 cd65 = true := by decide +kernel
set_option maxRecDepth 100000 in
theorem ck66 : chkL 66 0 cd66 = true := by decide +kernel
set_option maxRecDepth 100000 in
theorem ck67 : chkL 67 0 cd67 = true := by decide +kernel
set_option maxRecDepth 100000 in
theorem ck68 : chkL 68 0 cd68 = true := by decide +kernel
set_option maxRecDepth 100000 in
theorem ck69 : chkL 69 0 cd69 = true := by decide +kernel
set_option maxRecDepth 100000 in
theorem ck70 : chkL 70 0 cd70 = true := by decide +kernel
set_option maxRecDepth 100000 in
theorem ck71 : chkL 71 0 cd71 = true := by decide +kernel
set_option maxRecDepth 100000 in
theorem ck72 : chkL 72 0 cd72 = true := by decide +kernel
set_option maxRecDepth 100000 in
theorem ck73 : chkL 73 0 cd73 = true := by decide +kernel
set_option maxRecDepth 100000 in
theorem ck74 : chkL 74 0 cd74 = true := by decide +kernel
set_option maxRecDepth 100000 in
theorem ck75 : chkL 75 0 cd75 = true := by decide +kernel
set_option maxRecDepth 100000 in
theorem ck76 : chkL 76 0 cd76 = true := by decide +kernel
set_option maxRecDepth 100000 in
theorem ck77 : chkL 77 0 cd77 = true := by decide +kernel
set_option maxRecDepth 100000 in
theorem ck78 : chkL 78 0 cd78 = true := by decide +kernel
set_option maxRecDepth 100000 in
theorem ck79 : chkL 79 0 cd79 = true := by decide +kernel
set_option maxRecDepth 100000 in
theorem ck80 : chkL 80 0 cd80 = true := by decide +kernel
set_option maxRecDepth 100000 in
theorem ck81 : chkL 81 0 cd81 = true := by decide +kernel
set_option maxRecDepth 100000 in
theorem ck82 : chkL 82 0 cd82 = true := by decide +kernel
set_option maxRecDepth 100000 in
theorem ck83 : chkL 83 0 cd83 = true := by decide +kernel
set_option maxRecDepth 100000 in
theorem ck84 : chkL 84 0 cd84 = true := by decide +kernel
set_option maxRecDepth 100000 in
theorem ck85 : chkL 85 0 cd85 = true := by decide +kernel
set_option maxRecDepth 100000 in
theorem ck86 : chkL 86 0 cd86 = true := by decide +kernel
set_option maxRecDepth 100000 in
theorem ck87 : chkL 87 0 cd87 = true := by decide +kernel
set_option maxRecDepth 100000 in
theorem ck88 : chkL 88 0 cd88 = true := by decide +kernel
set_option maxRecDepth 100000 in
theorem ck89 : chkL 89 0 cd89 = true := by decide +kernel
set_option maxRecDepth 100000 in
theorem ck90 : chkL 90 0 cd90 = true := by decide +kernel
set_option maxRecDepth 100000 in
theorem ck91 : chkL 91 0 cd91 = true := by decide +kernel
set_option maxRecDepth 100000 in
theorem ck92 : chkL 92 0 cd92 = true := by decide +kernel
set_option maxRecDepth 100000 in
theorem ck93 : chkL 93 0 cd93 = true := by decide +kernel
set_option maxRecDepth 100000 in
theorem ck94 : chkL 94 0 cd94 = true := by decide +kernel
set_option maxRecDepth 100000 in
theorem ck95 : chkL 95 0 cd95 = true := by decide +kernel
set_option maxRecDepth 100000 in
theorem ck96 : chkL 96 0 cd96 = true := by decide +kernel
set_option maxRecDepth 100000 in
theorem ck97 : chkL 97 0 cd97 = true := by decide +kernel
set_option maxRecDepth 100000 in
theorem ck98 : chkL 98 0 cd98 = true := by decide +kernel
set_option maxRecDepth 100000 in
theorem ck99 : chkL 99 0 cd99 = true := by decide +kernel
set_option maxRecDepth 100000 in
theorem ck100 : chkL 100 0 cd100 = true := by decide +kernel
set_option maxRecDepth 100000 in
theorem ck101 : chkL 101 0 cd101 = true := by decide +kernel
set_option maxRecDepth 100000 in
theorem ck102 : chkL 102 0 cd102 = true := by decide +kernel
set_option maxRecDepth 100000 in
theorem ck103 : chkL 103 0 cd103 = true := by decide +kernel
set_option maxRecDepth 100000 in
theorem ck104 : chkL 104 0 cd104 = true := by decide +kernel
set_option maxRecDepth 100000 in
theorem ck105 : chkL 105 0 cd105 = true := by decide +kernel
set_option maxRecDepth 100000 in
theorem ck106 : chkL 106 0 cd106 = true := by decide +kernel
set_option maxRecDepth 100000 in
theorem ck107 : chkL 107 0 cd107 = true := by decide +kernel
set_option maxRecDepth 100000 in
theorem ck108 : chkL 108 0 cd108 = true := by decide +kernel
set_option maxRecDepth 100000 in
theorem ck109 : chkL 109 0 cd109 = true := by decide +kernel
set_option maxRecDepth 100000 in
theorem ck110 : chkL 110 0 cd110 = true := by decide +kernel
set_option maxRecDepth 100000 in
theorem ck111 : chkL 111 0 cd111 = true := by decide +kernel
