-- the script's ints, each fits; all else of the heap by looking
set_option maxRecDepth 100000 in
theorem zrest : rest_1_c.before zar zs1 = true := by decide +kernel
set_option maxRecDepth 100000 in
theorem zheapfits : heapFits zs1 = true := by decide +kernel
