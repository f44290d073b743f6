/-! ROUNDS: the class -/
def bcI (x : Int32) : Int32 := Id.run do
  let a := x - ((Int32.ofBitVec (x.toBitVec >>> 1)) &&& 1431655765)
  let b := (a &&& 858993459) + ((Int32.ofBitVec (a.toBitVec >>> 2)) &&& 858993459)
  let c := (b + Int32.ofBitVec (b.toBitVec >>> 4)) &&& 252645135
  let d := c + Int32.ofBitVec (c.toBitVec >>> 8)
  let e := d + Int32.ofBitVec (d.toBitVec >>> 16)
  return e &&& 63
theorem bc_pc : ∀ v, v < 1024 → bcI (nI v) = nI (pcN v) := by decide +kernel
section R2
variable {X : aX} {m : aMem} {A : aA} {K : Int32 → aMem → Prop}
end R2
