/-! the law's walk: what a row knows of the world -/
section
variable {M : MD} {b : Bool} {R : Room} {Q : PE} {K : KT} {P : PT} {J I : IT} {cs n pc : Nat} {St : List AV} {Lo : List (Nat × AV)}
theorem VE.wf (k : WF K P J I → VE M b R Q K P J I cs n pc Lo St) : VE M b R Q K P J I cs n pc Lo St := fun p l e s m args below meth c D ad0 ad K0 dom H locs ls X hll => k X.2.2.2.1 p l e s m args below meth c D ad0 ad K0 dom H locs ls X hll
/-- what a name holds is within an int -/
theorem wf_in {o : Nat} {z : Int} (h : WF K P J I) : inR (I o z) := h.1 o z
end
