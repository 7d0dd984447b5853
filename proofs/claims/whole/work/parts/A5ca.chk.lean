set_option maxRecDepth 100000 in
theorem ckM680 : chkL 112 680 ((cd112.drop 680).take 60) = true := by decide +kernel
set_option maxRecDepth 100000 in
theorem ckM740 : chkL 112 740 ((cd112.drop 740).take 60) = true := by decide +kernel
