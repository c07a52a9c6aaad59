-- ===== a name of the library: so the round is wide from its first part =====
theorem wide_q0 : True := by
  have _h := @Jvm.Free.Str.Ix1.tab_rides
  trivial
