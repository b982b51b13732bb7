section
theorem zz_probe : True := by
  have := @Jvm.Example.Sh0.kern
  trivial
end
