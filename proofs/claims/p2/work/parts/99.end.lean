/-! end -/
theorem g_end0 : True := trivial
