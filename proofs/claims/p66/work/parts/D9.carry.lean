set_option maxRecDepth 100000
set_option maxHeartbeats 2000000
/-! calls: carry, both sides -/
section
variable {W : St} {h g : St} {P P' : PT}
end
