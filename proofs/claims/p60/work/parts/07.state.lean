/-! what a machine's state is: scalars by their field's number, memory, times, callers, nmiWanted, and its ports (scalars, input, output). What the latest step touched is no part of it: its row is any row. -/
abbrev fb_PS : Type := fb_AR × fb_AR × fb_AR
abbrev fb_MS : Type := fb_AR × fb_AR × fb_AR × fb_AR × Bool × fb_PS
def fb_sR (σ : fb_MS) (k : Nat) (v : Int32) : fb_MS := (upd σ.1 k v, σ.2)
def fb_sM (σ : fb_MS) (f : fb_AR) : fb_MS := (σ.1, f, σ.2.2)
def fb_sT (σ : fb_MS) (f : fb_AR) : fb_MS := (σ.1, σ.2.1, f, σ.2.2.2)
def fb_sK (σ : fb_MS) (f : fb_AR) : fb_MS := (σ.1, σ.2.1, σ.2.2.1, f, σ.2.2.2.2)
def fb_sB (σ : fb_MS) (b : Bool) : fb_MS := (σ.1, σ.2.1, σ.2.2.1, σ.2.2.2.1, b, σ.2.2.2.2.2)
def fb_sP (σ : fb_MS) (π : fb_PS) : fb_MS := (σ.1, σ.2.1, σ.2.2.1, σ.2.2.2.1, σ.2.2.2.2.1, π)
def fb_pR (π : fb_PS) (k : Nat) (v : Int32) : fb_PS := (upd π.1 k v, π.2)
def fb_pI (π : fb_PS) (f : fb_AR) : fb_PS := (π.1, f, π.2.2)
def fb_pO (π : fb_PS) (f : fb_AR) : fb_PS := (π.1, π.2.1, f)
def fb_ty (cI cJ : ClassId) : List (ClassId × FieldType) := [(cI, .int), (cJ, .long)]
def fb_aw (cI : ClassId) (a N : Nat) (f : fb_AR) : va_W := [(a, .inl (cI, N, .inl f))]
def fb_pf (q : Nat → Nat) (π : fb_PS) : List Value := [.ref (q 6), .ref (q 7), .int (π.1 2), .int (π.1 3), .int (π.1 4), .int (π.1 5), .int (π.1 6), .int (π.1 7), .int (π.1 8), .int (π.1 9), .int (π.1 10), .int (π.1 11), .int (π.1 12), .int (π.1 13)]
def fb_pw (cI : ClassId) (q : Nat → Nat) (π : fb_PS) : va_W := [(q 5, .inr (5, fb_pf q π)), (q 6, .inl (cI, 16, .inl π.2.1)), (q 7, .inl (cI, 40, .inl π.2.2))]
def fb_mf (q : Nat → Nat) (σ : fb_MS) : List Value := [.ref (q 1), .ref (q 2), .ref (q 3), .ref (q 4), .ref (q 5), .int (σ.1 5), .int (σ.1 6), .int (σ.1 7), .int (σ.1 8), .int (σ.1 9), .int (σ.1 10), .int (σ.1 11), .int (σ.1 12), .int (σ.1 13), .int (σ.1 14), .int (σ.1 15), .int (fb_bI σ.2.2.2.2.1)]
def fb_mw (cI : ClassId) (q : Nat → Nat) (σ : fb_MS) (w : fb_AR) : va_W := [(q 0, .inr (2, fb_mf q σ)), (q 1, .inl (cI, 11008, .inl σ.2.1)), (q 2, .inl (cI, 4096, .inl σ.2.2.1)), (q 3, .inl (cI, 40, .inl σ.2.2.2.1)), (q 4, .inl (cI, 8, .inl w)), (q 5, .inr (5, fb_pf q σ.2.2.2.2.2)), (q 6, .inl (cI, 16, .inl σ.2.2.2.2.2.2.1)), (q 7, .inl (cI, 40, .inl σ.2.2.2.2.2.2.2))]
