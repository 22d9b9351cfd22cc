/-! what a machine's state is: scalars by their field's number, memory, times, callers, nmiWanted, and its ports (scalars, input, output). What the latest step touched is no part of it: its row is any row. -/
abbrev fb_PS : Type := fb_AR × fb_AR × fb_AR
abbrev fb_MS : Type := fb_AR × fb_AR × fb_AR × fb_AR × Bool × fb_PS
def fb_sR (σ : fb_MS) (k : Nat) (v : Int32) : fb_MS := (upd σ.1 k v, σ.2)
def fb_sT (σ : fb_MS) (f : fb_AR) : fb_MS := (σ.1, σ.2.1, f, σ.2.2.2)
def fb_sB (σ : fb_MS) (b : Bool) : fb_MS := (σ.1, σ.2.1, σ.2.2.1, σ.2.2.2.1, b, σ.2.2.2.2.2)
def fb_sP (σ : fb_MS) (π : fb_PS) : fb_MS := (σ.1, σ.2.1, σ.2.2.1, σ.2.2.2.1, σ.2.2.2.2.1, π)
def fb_pR (π : fb_PS) (k : Nat) (v : Int32) : fb_PS := (upd π.1 k v, π.2)
def fb_ty (D : va_G) (cI cJ : ClassId) : List (ClassId × FieldType) := [(cI, .int), (cJ, .long), (D.1 20, .boolean), (D.1 21, .byte), (D.1 22, .array .int), (D.1 23, .object "FerriteBoard$Line")]
def fb_aw (cI : ClassId) (a N : Nat) (f : fb_AR) : va_W := [(a, .inl (cI, N, .inl f))]
def fb_pf (q : Nat → Nat) (π : fb_PS) : List Value := [.ref (q 6), .ref (q 7), .int (π.1 2), .int (π.1 3), .int (π.1 4), .int (π.1 5), .int (π.1 6), .int (π.1 7), .int (π.1 8), .int (π.1 9), .int (π.1 10), .int (π.1 11), .int (π.1 12), .int (π.1 13)]
def fb_pw (cI : ClassId) (q : Nat → Nat) (π : fb_PS) : va_W := [(q 5, .inr (5, fb_pf q π)), (q 6, .inl (cI, 16, .inl π.2.1)), (q 7, .inl (cI, 40, .inl π.2.2))]
def fb_mf (q : Nat → Nat) (σ : fb_MS) : List Value := [.ref (q 1), .ref (q 2), .ref (q 3), .ref (q 4), .ref (q 5), .int (σ.1 5), .int (σ.1 6), .int (σ.1 7), .int (σ.1 8), .int (σ.1 9), .int (σ.1 10), .int (σ.1 11), .int (σ.1 12), .int (σ.1 13), .int (σ.1 14), .int (σ.1 15), .int (fb_bI σ.2.2.2.2.1)]
def fb_mw (cI : ClassId) (q : Nat → Nat) (σ : fb_MS) (w : fb_AR) : va_W := [(q 0, .inr (2, fb_mf q σ)), (q 1, .inl (cI, 11008, .inl σ.2.1)), (q 2, .inl (cI, 4096, .inl σ.2.2.1)), (q 3, .inl (cI, 40, .inl σ.2.2.2.1)), (q 4, .inl (cI, 8, .inl w)), (q 5, .inr (5, fb_pf q σ.2.2.2.2.2)), (q 6, .inl (cI, 16, .inl σ.2.2.2.2.2.2.1)), (q 7, .inl (cI, 40, .inl σ.2.2.2.2.2.2.2))]
theorem fb_ms5 {cI : ClassId} {q : Nat → Nat} {σ : fb_MS} {w : fb_AR} {v : Int32} : (fb_mw cI q σ w).set 0 (q 0, .inr (2, (fb_mf q σ).set 5 (.int v))) = fb_mw cI q (fb_sR σ 5 v) w := rfl
theorem fb_ms6 {cI : ClassId} {q : Nat → Nat} {σ : fb_MS} {w : fb_AR} {v : Int32} : (fb_mw cI q σ w).set 0 (q 0, .inr (2, (fb_mf q σ).set 6 (.int v))) = fb_mw cI q (fb_sR σ 6 v) w := rfl
theorem fb_ms7 {cI : ClassId} {q : Nat → Nat} {σ : fb_MS} {w : fb_AR} {v : Int32} : (fb_mw cI q σ w).set 0 (q 0, .inr (2, (fb_mf q σ).set 7 (.int v))) = fb_mw cI q (fb_sR σ 7 v) w := rfl
theorem fb_ms8 {cI : ClassId} {q : Nat → Nat} {σ : fb_MS} {w : fb_AR} {v : Int32} : (fb_mw cI q σ w).set 0 (q 0, .inr (2, (fb_mf q σ).set 8 (.int v))) = fb_mw cI q (fb_sR σ 8 v) w := rfl
theorem fb_ms9 {cI : ClassId} {q : Nat → Nat} {σ : fb_MS} {w : fb_AR} {v : Int32} : (fb_mw cI q σ w).set 0 (q 0, .inr (2, (fb_mf q σ).set 9 (.int v))) = fb_mw cI q (fb_sR σ 9 v) w := rfl
theorem fb_ms10 {cI : ClassId} {q : Nat → Nat} {σ : fb_MS} {w : fb_AR} {v : Int32} : (fb_mw cI q σ w).set 0 (q 0, .inr (2, (fb_mf q σ).set 10 (.int v))) = fb_mw cI q (fb_sR σ 10 v) w := rfl
theorem fb_ms11 {cI : ClassId} {q : Nat → Nat} {σ : fb_MS} {w : fb_AR} {v : Int32} : (fb_mw cI q σ w).set 0 (q 0, .inr (2, (fb_mf q σ).set 11 (.int v))) = fb_mw cI q (fb_sR σ 11 v) w := rfl
theorem fb_ms12 {cI : ClassId} {q : Nat → Nat} {σ : fb_MS} {w : fb_AR} {v : Int32} : (fb_mw cI q σ w).set 0 (q 0, .inr (2, (fb_mf q σ).set 12 (.int v))) = fb_mw cI q (fb_sR σ 12 v) w := rfl
theorem fb_ms13 {cI : ClassId} {q : Nat → Nat} {σ : fb_MS} {w : fb_AR} {v : Int32} : (fb_mw cI q σ w).set 0 (q 0, .inr (2, (fb_mf q σ).set 13 (.int v))) = fb_mw cI q (fb_sR σ 13 v) w := rfl
theorem fb_ms14 {cI : ClassId} {q : Nat → Nat} {σ : fb_MS} {w : fb_AR} {v : Int32} : (fb_mw cI q σ w).set 0 (q 0, .inr (2, (fb_mf q σ).set 14 (.int v))) = fb_mw cI q (fb_sR σ 14 v) w := rfl
theorem fb_ps2 {cI : ClassId} {q : Nat → Nat} {π : fb_PS} {v : Int32} : (fb_pw cI q π).set 0 (q 5, .inr (5, (fb_pf q π).set 2 (.int v))) = fb_pw cI q (fb_pR π 2 v) := rfl
theorem fb_ps3 {cI : ClassId} {q : Nat → Nat} {π : fb_PS} {v : Int32} : (fb_pw cI q π).set 0 (q 5, .inr (5, (fb_pf q π).set 3 (.int v))) = fb_pw cI q (fb_pR π 3 v) := rfl
theorem fb_ps4 {cI : ClassId} {q : Nat → Nat} {π : fb_PS} {v : Int32} : (fb_pw cI q π).set 0 (q 5, .inr (5, (fb_pf q π).set 4 (.int v))) = fb_pw cI q (fb_pR π 4 v) := rfl
theorem fb_ps5 {cI : ClassId} {q : Nat → Nat} {π : fb_PS} {v : Int32} : (fb_pw cI q π).set 0 (q 5, .inr (5, (fb_pf q π).set 5 (.int v))) = fb_pw cI q (fb_pR π 5 v) := rfl
theorem fb_ps6 {cI : ClassId} {q : Nat → Nat} {π : fb_PS} {v : Int32} : (fb_pw cI q π).set 0 (q 5, .inr (5, (fb_pf q π).set 6 (.int v))) = fb_pw cI q (fb_pR π 6 v) := rfl
theorem fb_ps7 {cI : ClassId} {q : Nat → Nat} {π : fb_PS} {v : Int32} : (fb_pw cI q π).set 0 (q 5, .inr (5, (fb_pf q π).set 7 (.int v))) = fb_pw cI q (fb_pR π 7 v) := rfl
theorem fb_ps8 {cI : ClassId} {q : Nat → Nat} {π : fb_PS} {v : Int32} : (fb_pw cI q π).set 0 (q 5, .inr (5, (fb_pf q π).set 8 (.int v))) = fb_pw cI q (fb_pR π 8 v) := rfl
theorem fb_ps9 {cI : ClassId} {q : Nat → Nat} {π : fb_PS} {v : Int32} : (fb_pw cI q π).set 0 (q 5, .inr (5, (fb_pf q π).set 9 (.int v))) = fb_pw cI q (fb_pR π 9 v) := rfl
theorem fb_ps10 {cI : ClassId} {q : Nat → Nat} {π : fb_PS} {v : Int32} : (fb_pw cI q π).set 0 (q 5, .inr (5, (fb_pf q π).set 10 (.int v))) = fb_pw cI q (fb_pR π 10 v) := rfl
theorem fb_ps11 {cI : ClassId} {q : Nat → Nat} {π : fb_PS} {v : Int32} : (fb_pw cI q π).set 0 (q 5, .inr (5, (fb_pf q π).set 11 (.int v))) = fb_pw cI q (fb_pR π 11 v) := rfl
theorem fb_ps12 {cI : ClassId} {q : Nat → Nat} {π : fb_PS} {v : Int32} : (fb_pw cI q π).set 0 (q 5, .inr (5, (fb_pf q π).set 12 (.int v))) = fb_pw cI q (fb_pR π 12 v) := rfl
theorem fb_ps13 {cI : ClassId} {q : Nat → Nat} {π : fb_PS} {v : Int32} : (fb_pw cI q π).set 0 (q 5, .inr (5, (fb_pf q π).set 13 (.int v))) = fb_pw cI q (fb_pR π 13 v) := rfl
/-! the other objects: addresses in their references, scalars by their field's number -/
def fb_o0 (a r0 r1 : Nat) (η : fb_AR) : va_W := [(a, .inr (0, [.ref r0, .ref r1, .int (η 2), .int (η 3), .int (η 4), .int (η 5)]))]
def fb_o3 (a r0 r1 r3 : Nat) (η : fb_AR) : va_W := [(a, .inr (3, [.ref r0, .ref r1, .int (η 2), .ref r3, .int (η 4)]))]
def fb_o4 (a r0 r1 r2 r3 r4 r5 r6 r7 r9 : Nat) (η : fb_AR) : va_W := [(a, .inr (4, [.ref r0, .ref r1, .ref r2, .ref r3, .ref r4, .ref r5, .ref r6, .ref r7, .int (η 8), .ref r9, .int (η 10), .int (η 11), .int (η 12), .int (η 13), .int (η 14)]))]
def fb_o6 (a r0 r1 r2 : Nat) (η : fb_AR) : va_W := [(a, .inr (6, [.ref r0, .ref r1, .ref r2, .int (η 3), .int (η 4)]))]
def fb_o7 (a r0 r1 r3 r4 r5 : Nat) (η : fb_AR) : va_W := [(a, .inr (7, [.ref r0, .ref r1, .int (η 2), .ref r3, .ref r4, .ref r5, .int (η 6), .int (η 7)]))]
def fb_o11 (a r0 r1 r2 r3 r4 r5 r6 r7 r8 r9 : Nat) : va_W := [(a, .inr (11, [.ref r0, .ref r1, .ref r2, .ref r3, .ref r4, .ref r5, .ref r6, .ref r7, .ref r8, .ref r9]))]

