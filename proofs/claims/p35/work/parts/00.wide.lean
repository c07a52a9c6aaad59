-- ===== a name of the library: so the round is wide from its first part =====
theorem wide_q0 : True := by
  have _h := Jvm.Lib.Cold.coder.spec
  trivial
