/-! As they are made, they are related. -/
theorem st_start : St false (0, 0, fun _ => 0, fun _ => 0, [], 46) wX0 (sA wM0 32 m0_holds) (0, 20, fun _ _ => 0, fun _ => 0) 0 (fun _ => 0) := by
  have z : (0 : Int32) = iI ((0 : Nat) : Int) := iI_lit 0
  have zl : (0 : Int64) = jJ ((0 : Nat) : Int) := jJ_lit 0
  refine ⟨⟨0, fun _ => 0, Or.inl ⟨rfl, rfl, rfl, rfl⟩, fun q hq => ⟨zl, (by show 0 < 9223372036854775808; decide), (by show 0 / 17592186044416 ≤ 0; decide)⟩, z, by decide, by decide, fun s hs => ⟨z, Nat.le_refl 0⟩, fun s s' _ _ _ h0 => absurd rfl h0, by decide, zl, by decide, fun _ _ _ => rfl⟩, ⟨0, z, by decide, fun j hj => ⟨0, z, by decide⟩⟩, ⟨by decide, by decide, fun i hi => absurd hi (Nat.not_lt_zero i), fun s hs => Nat.zero_le _⟩, by decide, ⟨z, by decide, fun i hi => absurd hi (Nat.not_lt_zero i), fun s hs => z⟩, ⟨z, by decide, fun i hi => absurd hi (Nat.not_lt_zero i), fun s hs => z⟩, ?_, ?_, ⟨⟨0, by decide, by decide, by decide, fun j hj => absurd hj (Nat.not_lt_zero j)⟩, 0, by decide, by decide, by decide, fun j _ hj => absurd hj (Nat.not_lt_zero j)⟩, ⟨0, 0, fun _ => 0, fun _ => 0, fun _ => 0, fun _ => 0, by decide, ⟨z, z⟩, ⟨z, z⟩, fun j hj => absurd hj (Nat.not_lt_zero j)⟩, ?_, Or.inl ⟨rfl, by decide⟩, ⟨by decide, z, z, fun j hj => absurd hj (Nat.not_lt_zero j)⟩, Or.inl ⟨rfl, rfl⟩⟩
  · have h0 : ∀ s : Nat, s < 6 → m0_holds s = -1 := by decide +kernel
    exact fun s hs => Or.inl ⟨rfl, h0 s hs⟩
  · intro s hs e58
    have e58 : (0 : Int32) = iI 2 := e58
    exact absurd e58 (by decide)
  · exact DD.nil ⟨rfl, rfl⟩ ⟨rfl, rfl⟩ rfl ⟨rfl, rfl⟩ rfl rfl rfl rfl rfl rfl rfl (fun j hj => ⟨rfl, rfl, rfl⟩)
theorem rel_start : lw_Start Rel := by
  obtain ⟨f, h1, h2⟩ := ini_both
  refine ⟨?_, rel_pairs, _, _, f, 64, 3259, 35, 18330, 5, 68076, h1, h2, ⟨false, (0, 0, fun _ => 0, fun _ => 0, [], 46), wX0, sA wM0 32 m0_holds, (0, 20, fun _ _ => 0, fun _ => 0), 0, fun _ => 0, rfl, rfl, st_start, by decide, by decide⟩, by decide, by decide⟩
  rintro hX hM kc kn ⟨w, M, σ, μ, T, L, b, rfl, rfl, -⟩
  exact ⟨⟨_, rfl⟩, ⟨_, rfl⟩⟩
