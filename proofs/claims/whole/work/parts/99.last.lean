theorem zz_words : (vx_atS RX7 255 "java/lang/IndexOutOfBoundsException" ["java/lang/RuntimeException", "java/lang/Exception"]).filter (fun w => !goodWord w) = [] := by decide +kernel
theorem zz_all : lw_tbl.filter (fun w => !goodWord w) = [] := by decide +kernel
