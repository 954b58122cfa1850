theorem tM_in (σ : wS) (v lo hi : Int32) : Ev 1 157 [.int v, .int lo, .int hi] (mkM σ) (some (.int (bif decide (lo ≤ v) && decide (v ≤ hi) then 1 else 0)), mkM σ, 0, 0) := by
  refine Ev.of (T := tb_X11_in) rfl rfl ?_
  refine Go.st1 rfl ?_
  refine Go.st1 rfl ?_
  refine Go.br rfl (fun h1 => ?_) (fun h1 => ?_)
  · refine Go.run 1 rfl ?_
    exact Go.ret rfl rfl (by simp_all [mc_cond])
  · sorry
