set_option maxHeartbeats 8000000 in
set_option maxRecDepth 100000 in
theorem ini_X : EvP 60 108 [.ref 0] [.inr (9, [.null, .null, .null, .null, .null, .null, .null, .null, .null, .null, .int 0])] (fun R => R = (none, mkX false [] 46 wX0, 64, 3259)) := by
  refine EvP.of rfl rfl ?_
  dsimp only [mc_pad, mc_exp]
  repeat' first
    | refine GoP.st1 rfl ?_
    | refine GoP.ck rfl (by decide) ?_
    | (refine GoP.enter rfl rfl rfl ?_; dsimp only [mc_pad, mc_exp])
    | (refine GoP.rt rfl rfl ?_; try dsimp only [Option.toList, List.cons_append, List.nil_append])
  rfl
