/-! the classes whose objects the worlds hold -/
abbrev xw_cl : List vw_C := [("ThresholdSeal", TS_, 5), ("ThresholdSeal$Dealing", TD_, 6), ("ThresholdSeal$Pairs", TP_, 5), ("ThresholdSeal$Session", TX_, 14), ("ThresholdSealModel", TM_, 25)]
