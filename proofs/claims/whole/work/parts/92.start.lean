/-! both begin alike -/
set_option maxRecDepth 100000 in
set_option maxHeartbeats 4000000 in
theorem RR_00 : RR 0 (X8M M00) (X8M M00) := by
  have off : ¬ (X8M M00).1 19 1 = 1 := by decide +kernel
  refine ⟨⟨⟨⟨⟨?_, ?_⟩, ?_, ?_, ⟨?_, ?_⟩, ?_⟩, ?_, fun h => absurd h off⟩, ⟨?_, ?_, ?_, ?_⟩, ?_, ?_, ?_, ?_⟩, ⟨⟨25, 30, 15, 2, by decide +kernel, by decide, by decide, by decide, by decide⟩, ⟨?_, ?_, ?_, ⟨?_, ?_⟩, fun h => absurd h off, ⟨0, by decide, by decide +kernel⟩, ?_⟩, ⟨0, by decide, by decide +kernel, fun h => absurd h off⟩⟩, fun h => absurd h off⟩
  · decide +kernel
  · decide +kernel
  · decide +kernel
  · decide +kernel
  · decide +kernel
  · decide +kernel
  · decide +kernel
  · unfold EK; decide +kernel
  · unfold EN_0; decide +kernel
  · unfold EA_0; decide +kernel
  · decide +kernel
  · exact fun h => absurd (by decide +kernel) h
  · unfold EN_1; decide +kernel
  · unfold EA_1; decide +kernel
  · decide +kernel
  · exact fun h => absurd (by decide +kernel) h
  · decide +kernel
  · decide +kernel
  · decide +kernel
  · exact fun h => absurd h (by decide +kernel)
  · exact fun h => absurd h (by decide +kernel)
  · decide +kernel
