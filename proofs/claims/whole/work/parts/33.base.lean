/-! (the base ends here) -/
theorem mq_base : True := trivial
