/-! read over the whole library: this name lies behind the part that is read first -/
def am_wide := @Stand.multianewarray2F
