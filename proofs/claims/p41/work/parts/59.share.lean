/-! LONGS, LEAST TERMS, SHARE: both sides -/
def L (z : Int) : Int64 := Int64.ofInt z


