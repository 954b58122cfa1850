set_option maxHeartbeats 8000000 in
set_option maxRecDepth 100000 in
theorem ini_X : EvP 60 108 [.ref 0] [.inr (9, [.null, .null, .null, .null, .null, .null, .null, .null, .null, .null, .int 0])] (fun R => R = (none, mkX false [] 46 wX0, 64, 3259)) := by
  refine EvP.of rfl rfl ?_
  dsimp only [mc_pad, mc_exp]
  repeat' first
    | refine GoP.st1 rfl ?_
    | refine GoP.ck rfl (by decide) ?_
    | (refine GoP.enter rfl rfl rfl ?_; dsimp only [mc_pad, mc_exp])
    | (refine GoP.rt rfl rfl ?_; try dsimp only [Option.toList, List.cons_append, List.nil_append])
  rfl

/-- the reference's shelves as made -/
def m0_holds : Nat → Int32 := (upd (upd (upd (upd (upd (upd (fun _ => 0) (0 : Int32).toNatClampNeg (-1)) (1 : Int32).toNatClampNeg (-1)) (2 : Int32).toNatClampNeg (-1)) (3 : Int32).toNatClampNeg (-1)) (4 : Int32).toNatClampNeg (-1)) (5 : Int32).toNatClampNeg (-1))
theorem m0_holds_at : ∀ j, j < 6 → m0_holds j = -1 := by decide +kernel
set_option maxHeartbeats 8000000 in
set_option maxRecDepth 100000 in
theorem ini_M : EvP 60 156 [.ref 0] [.inr (10, [.int 0, .int 0, .null, .int 0, .null, .int 0, .int 0, .null, .null, .null, .null, .null, .int 0, .int 0, .int 0, .int 0, .int 0, .null, .null, .null, .null, .null, .null, .null, .int 0, .null, .null, .null, .null, .int 0, .int 0, .null, .int 0, .int 0, .int 0, .null, .long 0, .null, .null, .null, .int 0, .null, .null, .null, .null, .int 0, .null, .null, .int 0, .null, .int 0, .null, .null, .null, .null, .null])] (fun R => R = (none, mkM (sA wM0 32 m0_holds), 35, 18330)) := by
  refine EvP.of rfl rfl ?_
  dsimp only [mc_pad, mc_exp]
  repeat' first
    | refine GoP.st1 rfl ?_
    | refine GoP.ck rfl (by decide) ?_
    | (refine GoP.enter rfl rfl rfl ?_; dsimp only [mc_pad, mc_exp])
    | (refine GoP.rt rfl rfl ?_; try dsimp only [Option.toList, List.cons_append, List.nil_append])
  rfl
/-- what lw_Start wants of the two constructors -/
theorem ini_both : ∃ f, mc_run PM 60 f 108 [.ref 0] [.inr (9, [.null, .null, .null, .null, .null, .null, .null, .null, .null, .null, .int 0])] = some (none, mkX false [] 46 wX0, 64, 3259) ∧ mc_run PM 60 f 156 [.ref 0] [.inr (10, [.int 0, .int 0, .null, .int 0, .null, .int 0, .int 0, .null, .null, .null, .null, .null, .int 0, .int 0, .int 0, .int 0, .int 0, .null, .null, .null, .null, .null, .null, .null, .int 0, .null, .null, .null, .null, .int 0, .int 0, .null, .int 0, .int 0, .int 0, .null, .long 0, .null, .null, .null, .int 0, .null, .null, .null, .null, .int 0, .null, .null, .int 0, .null, .int 0, .null, .null, .null, .null, .null])] = some (none, mkM (sA wM0 32 m0_holds), 35, 18330) := by
  obtain ⟨F1, h1⟩ := ini_X.ev
  obtain ⟨F2, h2⟩ := ini_M.ev
  exact ⟨F1 + F2, h1 _ (by omega), h2 _ (by omega)⟩
