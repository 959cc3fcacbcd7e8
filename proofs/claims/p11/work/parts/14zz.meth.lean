/-! ===== records of methods ===== -/
