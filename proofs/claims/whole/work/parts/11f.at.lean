/-! the instructions, one by one -/
