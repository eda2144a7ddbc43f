/-! nothing yet -/
