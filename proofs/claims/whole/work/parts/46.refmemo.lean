/-! The reference's store. -/
theorem kb_shln {a s : Nat} (h : s < 31) (hs : (BitVec.ofNat 32 s).smod 32 = BitVec.ofNat 32 s) : iI (a : Int) <<< (iI (s : Int) &&& iI 31) = iI ((a * 2 ^ s : Nat) : Int) := by
  have e1 : iI (s : Int) &&& iI 31 = iI (s : Int) := by
    rw [show (iI 31) = iI ((31 : Nat) : Int) from rfl, iI_and]
    rw [show (31 : Nat) = 2 ^ 5 - 1 from rfl, Nat.and_two_pow_sub_one_eq_mod, Nat.mod_eq_of_lt (by omega)]
  rw [e1]
  refine Int32.toBitVec.inj ?_
  rw [Int32.toBitVec_shiftLeft]
  have e2 : ∀ z : Nat, (iI (z : Int)).toBitVec = BitVec.ofNat 32 z := fun z => by
    show BitVec.ofInt 32 (z : Int) = _
    rw [BitVec.ofInt_natCast]
  rw [e2, e2, e2, hs]
  refine BitVec.eq_of_toNat_eq ?_
  have e3 : s % 4294967296 = s := by omega
  have e4 : s % 32 = s := by omega
  simp [Nat.shiftLeft_eq, e3]
theorem or_add {a b k : Nat} (h : b < 2 ^ k) : a * 2 ^ k ||| b = a * 2 ^ k + b := by
  rw [show a * 2 ^ k = a <<< k by rw [Nat.shiftLeft_eq]]
  exact (Nat.shiftLeft_add_eq_or_of_lt h a).symm
/-- the key of a state -/
def ky (run d room so ru : Nat) : Nat := run * 65536 + d * 4096 + room * 64 + so * 2 + ru
theorem ky_inj {run d room so ru d' room' so' ru' : Nat} (h : (room ≤ 60 ∧ so < 32 ∧ ru < 2) ∧ room' ≤ 60 ∧ so' < 32 ∧ ru' < 2) (e : ky run d room so ru = ky run d' room' so' ru') : d = d' ∧ room = room' ∧ so = so' ∧ ru = ru' := by
  unfold ky at e
  omega
def spX (x : Int32) : Int32 := ((x ^^^ x >>> ((7 : Int32) &&& 31)) ^^^ x >>> ((13 : Int32) &&& 31)) &&& 4095
def spN (x : Int32) : Nat := (spX x).toNatClampNeg
theorem sp_ok (x : Int32) : spX x = iI (spN x : Int) ∧ spN x < 4096 := by
  unfold spN spX
  generalize (x ^^^ x >>> ((7 : Int32) &&& 31)) ^^^ x >>> ((13 : Int32) &&& 31) = y
  have hb : (y &&& 4095).toBitVec = BitVec.ofNat 32 (y.toBitVec.toNat &&& 4095) := by
    refine BitVec.eq_of_toNat_eq ?_
    show (y.toBitVec &&& 4095#32).toNat = _
    rw [BitVec.toNat_and, BitVec.toNat_ofNat, BitVec.toNat_ofNat, show 4095 % 2 ^ 32 = 4095 from rfl]
    have := Nat.and_le_right (n := y.toBitVec.toNat) (m := 4095)
    omega
  have hle := Nat.and_le_right (n := y.toBitVec.toNat) (m := 4095)
  generalize y.toBitVec.toNat &&& 4095 = z at hb hle
  have hz : y &&& 4095 = iI (z : Int) := by
    refine Int32.toBitVec.inj ?_
    rw [hb]
    show _ = BitVec.ofInt 32 (z : Int)
    rw [BitVec.ofInt_natCast]
  rw [hz, k_cl (by omega)]
  exact ⟨by congr 1, by omega⟩
section
variable {T : tT} {μ : wS}
set_option maxRecDepth 100000 in
set_option maxHeartbeats 4000000 in
theorem ct_keyOf {D run d room so ru : Nat} (hD : 1 ≤ D) (hrun : μ.1 29 = iI (run : Int)) (h : run < 30000 ∧ d ≤ 9 ∧ room ≤ 60 ∧ so < 32 ∧ ru < 2) : EvP D 205 [.ref 0, .int (iI (d : Int)), .int (iI (room : Int)), .int (iI (so : Int)), .int (iI (ru : Int))] (mkM μ) (fun R => R = (some (.int (iI (ky run d room so ru : Int))), mkM μ, 0, 0)) := by
  obtain ⟨D, rfl⟩ : ∃ D', D = D' + 1 := ⟨D - 1, by omega⟩
  refine EvP.kof (T := tb_X11_keyOf) rfl rfl ?_
  dsimp only [mc_pad, mc_exp]
  repeat' first
    | ((with_reducible apply GoP.k0); exact rfl; exact rfl)
    | ((with_reducible apply GoP.k1); exact rfl; exact rfl; all_goals (intro h; (try simp (disch := omega) only [jJ_lit, jJ_add, jJ_mul, iI_long, jJ_toI, l_lt, l_ge, l_gt, l_le, l_eq, l_ne, jJ_inj, k_ule, k_uln, iI_lit, iI_nat, iI_neg, iI_add, iI_sub, iI_mul, k_lt, k_ge, k_gt, k_le, k_eq, k_ne, k_cl, k_in, iI_inj, k_upe, k_upn, k_wue, k_wun, sI_1, sI_2, sI_3, sI_4, sJ_1, sJ_2, sJ_3, sJ_4, sA_1, sA_2, sA_3, sA_4, sB_1, sB_2, sB_3, sB_4, decide_eq_true_eq, decide_eq_false_iff_not, reduceCtorEq, Int.toNat_natCast, Bool.and_true, mc_tf, List.getD_cons_zero, List.getD_cons_succ, Int.reduceToNat, Int.reduceAdd, Int.reduceSub, Int.reduceMul, Int.reduceNeg, Int.reduceLT, Int.reduceLE, Int.reduceEq, not_true_eq_false, not_false_eq_true, decide_true, decide_false] at h); (try (exfalso; omega))))
    | ((with_reducible apply GoP.k2); exact rfl; exact rfl; focus ((simp (disch := omega) only [jJ_lit, jJ_add, jJ_mul, iI_long, jJ_toI, l_lt, l_ge, l_gt, l_le, l_eq, l_ne, jJ_inj, k_ule, k_uln, iI_lit, iI_nat, iI_neg, iI_add, iI_sub, iI_mul, k_lt, k_ge, k_gt, k_le, k_eq, k_ne, k_cl, k_in, iI_inj, k_upe, k_upn, k_wue, k_wun, sI_1, sI_2, sI_3, sI_4, sJ_1, sJ_2, sJ_3, sJ_4, sA_1, sA_2, sA_3, sA_4, sB_1, sB_2, sB_3, sB_4, decide_eq_true_eq, decide_eq_false_iff_not, reduceCtorEq, Int.toNat_natCast, Bool.and_true, mc_tf, List.getD_cons_zero, List.getD_cons_succ, Int.reduceToNat, Int.reduceAdd, Int.reduceSub, Int.reduceMul, Int.reduceNeg, Int.reduceLT, Int.reduceLE, Int.reduceEq, not_true_eq_false, not_false_eq_true, decide_true, decide_false]) <;> omega))
    | ((with_reducible apply GoP.k3); exact rfl; exact rfl; exact rfl; exact rfl; dsimp only [mc_pad, mc_exp])
    | ((with_reducible apply GoP.k4); exact rfl; exact rfl; exact rfl; try dsimp only [Option.toList, List.cons_append, List.nil_append])
    | ((with_reducible apply GoP.k5); exact rfl; exact rfl)
    | ((with_reducible apply GoA.sw); all_goals (intro h; (try simp (disch := omega) only [jJ_lit, jJ_add, jJ_mul, iI_long, jJ_toI, l_lt, l_ge, l_gt, l_le, l_eq, l_ne, jJ_inj, k_ule, k_uln, iI_lit, iI_nat, iI_neg, iI_add, iI_sub, iI_mul, k_lt, k_ge, k_gt, k_le, k_eq, k_ne, k_cl, k_in, iI_inj, k_upe, k_upn, k_wue, k_wun, sI_1, sI_2, sI_3, sI_4, sJ_1, sJ_2, sJ_3, sJ_4, sA_1, sA_2, sA_3, sA_4, sB_1, sB_2, sB_3, sB_4, decide_eq_true_eq, decide_eq_false_iff_not, reduceCtorEq, Int.toNat_natCast, Bool.and_true, mc_tf, List.getD_cons_zero, List.getD_cons_succ, Int.reduceToNat, Int.reduceAdd, Int.reduceSub, Int.reduceMul, Int.reduceNeg, Int.reduceLT, Int.reduceLE, Int.reduceEq, not_true_eq_false, not_false_eq_true, decide_true, decide_false] at h); (try (exfalso; omega))))
    | ((with_reducible apply GoA.sw0))
    | ((with_reducible apply GoA.c); all_goals (intro h; (try simp (disch := omega) only [jJ_lit, jJ_add, jJ_mul, iI_long, jJ_toI, l_lt, l_ge, l_gt, l_le, l_eq, l_ne, jJ_inj, k_ule, k_uln, iI_lit, iI_nat, iI_neg, iI_add, iI_sub, iI_mul, k_lt, k_ge, k_gt, k_le, k_eq, k_ne, k_cl, k_in, iI_inj, k_upe, k_upn, k_wue, k_wun, sI_1, sI_2, sI_3, sI_4, sJ_1, sJ_2, sJ_3, sJ_4, sA_1, sA_2, sA_3, sA_4, sB_1, sB_2, sB_3, sB_4, decide_eq_true_eq, decide_eq_false_iff_not, reduceCtorEq, Int.toNat_natCast, Bool.and_true, mc_tf, List.getD_cons_zero, List.getD_cons_succ, Int.reduceToNat, Int.reduceAdd, Int.reduceSub, Int.reduceMul, Int.reduceNeg, Int.reduceLT, Int.reduceLE, Int.reduceEq, not_true_eq_false, not_false_eq_true, decide_true, decide_false] at h); (try (exfalso; omega))))
    | ((with_reducible apply EvP.kof); exact rfl; exact rfl; dsimp only [mc_pad, mc_exp])
  refine R_int ?_ rfl
  rw [hrun, iI_lit, iI_lit, iI_lit, iI_lit, iI_lit]
  have a1 : iI (run : Int) <<< (iI 16 &&& iI 31) = iI ((run * 2 ^ 16 : Nat) : Int) := kb_shln (s := 16) (by decide) (by decide)
  have a2 : iI (d : Int) <<< (iI 12 &&& iI 31) = iI ((d * 2 ^ 12 : Nat) : Int) := kb_shln (s := 12) (by decide) (by decide)
  have a3 : iI (room : Int) <<< (iI 6 &&& iI 31) = iI ((room * 2 ^ 6 : Nat) : Int) := kb_shln (s := 6) (by decide) (by decide)
  have a4 : iI (so : Int) <<< (iI 1 &&& iI 31) = iI ((so * 2 ^ 1 : Nat) : Int) := kb_shln (s := 1) (by decide) (by decide)
  rw [a1, a2, a3, a4, iI_or, iI_or, iI_or, iI_or]
  congr 2
  rw [or_add (show d * 2 ^ 12 < 2 ^ 16 by omega), show run * 2 ^ 16 + d * 2 ^ 12 = (run * 16 + d) * 2 ^ 12 by omega, or_add (show room * 2 ^ 6 < 2 ^ 12 by omega), show (run * 16 + d) * 2 ^ 12 + room * 2 ^ 6 = ((run * 16 + d) * 64 + room) * 2 ^ 6 by omega, or_add (show so * 2 ^ 1 < 2 ^ 6 by omega), show ((run * 16 + d) * 64 + room) * 2 ^ 6 + so * 2 ^ 1 = (((run * 16 + d) * 64 + room) * 32 + so) * 2 ^ 1 by omega, or_add (show ru < 2 ^ 1 by omega)]
  unfold ky
  omega
end
/-- the store in the run: no key of a later run -/
def RK (run : Nat) (μ : wS) : Prop := μ.1 29 = iI (run : Int) ∧ run < 30000 ∧ ∀ j, j < 4096 → ∃ k : Nat, μ.2.2.1 15 j = iI (k : Int) ∧ k < (run + 1) * 65536
/-- what is stored in this run is right: P says so of a state's spot -/
def CR (P : Nat → Nat → Nat → Nat → Nat → wS → Prop) (e run : Nat) (μ : wS) : Prop := ∀ d room so ru, d < e → d < 9 → room ≤ 60 → so < 32 → ru < 2 → μ.2.2.1 15 (spN (iI (ky run d room so ru : Int))) = iI (ky run d room so ru : Int) → P d room so ru (spN (iI (ky run d room so ru : Int))) μ
