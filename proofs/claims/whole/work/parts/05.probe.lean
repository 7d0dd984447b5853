set_option maxRecDepth 100000 in
theorem mOk_all : (List.range NM).all (fun u => u == LAW || mOk u) = true := by decide +kernel
set_option maxRecDepth 100000 in
theorem pr_law : LAW ≠ 0 := by decide +kernel
set_option maxRecDepth 100000 in
theorem ck69 : chkL 69 0 cd69 = true := by decide +kernel
set_option maxRecDepth 100000 in
theorem ck150 : chkL 150 0 cd150 = true := by decide +kernel
