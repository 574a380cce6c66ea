section
theorem probe_lib : True := by
  have h := @Jvm.Example.ConBool.K
  trivial
end
