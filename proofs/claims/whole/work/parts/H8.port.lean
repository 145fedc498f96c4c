set_option maxRecDepth 100000
set_option maxHeartbeats 4000000
set_option maxRecDepth 100000
section
variable {L : Nat} {xs : Nat → Int32}
theorem op_port : OpI L xs (DX11_port (sR fr0 0 oX)) (DX12_port (sR fr0 0 oM)) := by
  sorry
end
