/-! CODE. -/

