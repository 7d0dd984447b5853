set_option maxRecDepth 100000 in
theorem ckM500 : chkL 112 500 ((cd112.drop 500).take 60) = true := by decide +kernel
set_option maxRecDepth 100000 in
theorem ckM560 : chkL 112 560 ((cd112.drop 560).take 60) = true := by decide +kernel
set_option maxRecDepth 100000 in
theorem ckM620 : chkL 112 620 ((cd112.drop 620).take 60) = true := by decide +kernel
