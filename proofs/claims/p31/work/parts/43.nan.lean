theorem tk_nan64 {a : UInt64} (h : dok a) : FP.dIsNaN a = false := (FP.Core.notNaN_iff a).mpr h
theorem tk_nan32 {a : UInt32} (h : fok a) : FP.fIsNaN a = false := (FP.Core.notNaN_iff32 a).mpr h
