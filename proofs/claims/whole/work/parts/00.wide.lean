/-! the library's laws of floats are wanted later: a name of theirs here, so that the first round is read over the whole library at once -/
theorem wide_good : Jvm.FP.Core.Good Jvm.FP.Core.b64 := Jvm.FP.Core.good_b64
