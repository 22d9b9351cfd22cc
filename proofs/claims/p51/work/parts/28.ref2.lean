/-! the reference along a fresh object's road, laid by ref.py -/
/-- the reference's row behind zk such steps; zt: how often at each place -/
def fr_m (zt : fb_AR) (zk : Nat) : fb_AR := fun j => if j = 2 then 255 else if j = 3 then 4 else if j = 4 then nI (zk % 4096) else if j = 7 then nI zk else if j = 8 then nI zk else if j = 15 then 1 else if 12109 ≤ j then zt (j - 12109) else 0
theorem fr_hm (zt : fb_AR) (zk : Nat) : ∀ j, 1101 ≤ j → j < 12109 → fr_m zt zk j = 0 := fun j a b => by
  unfold fr_m
  rw [if_neg (by omega), if_neg (by omega), if_neg (by omega), if_neg (by omega), if_neg (by omega), if_neg (by omega), if_neg (by omega)]
