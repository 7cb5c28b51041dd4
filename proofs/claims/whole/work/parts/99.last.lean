section
theorem zz_t : True := trivial
end
