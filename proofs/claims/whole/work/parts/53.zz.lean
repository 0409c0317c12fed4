/-! behind the law's words -/
section ZZ53
theorem zz53 : True := trivial
end ZZ53
