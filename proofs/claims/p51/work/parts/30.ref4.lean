/-! the reference along a fresh object's road, laid by ref.py -/
/-- the fresh object's numbers -/
def fr_e0 : fb_AR := fun k => if k = 8 then -1 else if k = 28 then -1 else 0
