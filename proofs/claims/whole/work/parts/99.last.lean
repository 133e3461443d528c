theorem zz1 : lw_tbl[59 + 0]? = some (.initialized "WireBoardLaw") := rfl
