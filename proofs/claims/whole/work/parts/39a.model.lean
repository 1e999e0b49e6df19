/-! sets of twelve -/
theorem zor_tab : ((List.range 4096).all fun s => (List.range 12).all fun x => decide (0 ≤ zor (s : Int) (zshl 1 (x : Int))) && decide (zor (s : Int) (zshl 1 (x : Int)) < 4096)) = true := by decide +kernel
