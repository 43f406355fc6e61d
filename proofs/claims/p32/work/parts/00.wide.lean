/-! a name of the library's rest, so that a round is read over the whole of it from the first part on -/
theorem wide_0 (x : Int32) : Jvm.FP.Core.DFin (FP.i2d x) := Jvm.FP.Core.i2d_fin x
