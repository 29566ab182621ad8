set_option maxRecDepth 20000 in
theorem ggX7_partOf_X7_partShift : GoodIn wsX7_partOf wsX7_partShift := goodIn_r _ [4] (by decide +kernel) (by decide +kernel)
set_option maxRecDepth 20000 in
theorem gX7_partOf_X7_partShift : GoodIn wsX7_partOf (va_wsS RX7 142 yX7_partShift wsX7_partShift) := goodIn_app (goodIn_of _ (by decide +kernel)) ggX7_partOf_X7_partShift
set_option maxRecDepth 20000 in
theorem ggX7_cellOf_X7_cellShift : GoodIn wsX7_cellOf wsX7_cellShift := goodIn_r _ [4] (by decide +kernel) (by decide +kernel)
set_option maxRecDepth 20000 in
theorem gX7_cellOf_X7_cellShift : GoodIn wsX7_cellOf (va_wsS RX7 255 yX7_cellShift wsX7_cellShift) := goodIn_app (goodIn_of _ (by decide +kernel)) ggX7_cellOf_X7_cellShift
set_option maxRecDepth 20000 in
theorem ggX7_rowMask_X7_hasBit : GoodIn wsX7_rowMask wsX7_hasBit := goodIn_r _ [4] (by decide +kernel) (by decide +kernel)
set_option maxRecDepth 20000 in
theorem gX7_rowMask_X7_hasBit : GoodIn wsX7_rowMask (va_wsS RX7 212 yX7_hasBit wsX7_hasBit) := goodIn_app (goodIn_of _ (by decide +kernel)) ggX7_rowMask_X7_hasBit
set_option maxRecDepth 20000 in
theorem ggX7_rowMask_X7_cellShift : GoodIn wsX7_rowMask wsX7_cellShift := goodIn_r _ [7] (by decide +kernel) (by decide +kernel)
set_option maxRecDepth 20000 in
theorem gX7_rowMask_X7_cellShift : GoodIn wsX7_rowMask (va_wsS RX7 255 yX7_cellShift wsX7_cellShift) := goodIn_app (goodIn_of _ (by decide +kernel)) ggX7_rowMask_X7_cellShift
set_option maxRecDepth 20000 in
theorem ggX7_maskFor_X7_partShift : GoodIn wsX7_maskFor wsX7_partShift := goodIn_r _ [4] (by decide +kernel) (by decide +kernel)
set_option maxRecDepth 20000 in
theorem gX7_maskFor_X7_partShift : GoodIn wsX7_maskFor (va_wsS RX7 142 yX7_partShift wsX7_partShift) := goodIn_app (goodIn_of _ (by decide +kernel)) ggX7_maskFor_X7_partShift
set_option maxRecDepth 20000 in
theorem ggX7_orderOf_X7_partOf : GoodIn wsX7_orderOf wsX7_partOf := goodIn_r _ [4, 5, 6, 3, 7] (by decide +kernel) (by decide +kernel)
set_option maxRecDepth 20000 in
theorem gX7_orderOf_X7_partOf : GoodIn wsX7_orderOf (va_wsS RX7 106 yX7_partOf wsX7_partOf) := goodIn_app (goodIn_of _ (by decide +kernel)) ggX7_orderOf_X7_partOf
