set_option maxRecDepth 100000 in
theorem bad1 : (vx_atS "HeatStadium" 303 "java/lang/IndexOutOfBoundsException" ["java/lang/RuntimeException", "java/lang/Exception"]).filter (fun w => !goodWord w) = [] := by
  show (List.filter _ _) = []
  simp [vx_atS, Bundle.ownAtoms, Bundle.throwableAtoms, Bundle.throwableSAtoms, Bundle.chainSAtoms, Bundle.passSAtoms, goodWord, vx_no, Cond.onTables, Cond.keeps]
