/-! words of 36 bits, and the relation between the class's state and the reference's -/
def xv (b : BitVec 36) : Int64 := Int64.ofBitVec (b.signExtend 64)
def zv (b : BitVec 36) : Int64 := Int64.ofBitVec (b.setWidth 64)
/-- between two calls: the same words, PC, overflow, count -/
def Rel (kx : kSx) (kz : kSz) : Prop := ∃ M : Nat → BitVec 36, (∀ i, ux_w kx i = xv (M i)) ∧ (∀ i, uz_w kz i = zv (M i)) ∧ ux_pc kx = uz_ct kz ∧ ux_ov kx = uz_ov kz ∧ ux_dn kx = uz_dn kz
