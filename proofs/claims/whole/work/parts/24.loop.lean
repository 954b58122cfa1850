/-- all pairs of methods, whatever the arguments -/
def law_P (Rel : lw_R) : Prop := ∀ a1 a2 a3 a4 a5 : Int32, (pairI Rel 109 168 [.int a1, .int a2]) ∧ (pairI Rel 110 169 [.int a1, .int a2, .int a3]) ∧ (pairI Rel 112 177 [.int a1, .int a2, .int a3]) ∧ (pairI Rel 113 178 [.int a1, .int a2]) ∧ (pairI Rel 114 179 [.int a1]) ∧ (pairI Rel 115 197 []) ∧ (pairI Rel 117 211 [.int a1]) ∧ (pairI Rel 118 212 [.int a1, .int a2]) ∧ (pairI Rel 119 213 [.int a1]) ∧ (pairL Rel 120 218 [.int a1]) ∧ (pairI Rel 121 225 [.int a1, .int a2]) ∧ (pairI Rel 122 226 [.int a1, .int a2]) ∧ (pairI Rel 126 229 [.int a1]) ∧ (pairI Rel 128 231 [.int a1, .int a2]) ∧ (pairI Rel 129 232 [.int a1, .int a2]) ∧ (pairL Rel 130 234 [.int a1, .int a2, .int a3]) ∧ (pairI Rel 131 235 [.int a1]) ∧ (pairI Rel 132 237 [.int a1]) ∧ (pairI Rel 135 238 [.int a1]) ∧ (pairI Rel 137 239 [.int a1, .int a2, .int a3]) ∧ (pairI Rel 138 242 []) ∧ (pairI Rel 139 243 []) ∧ (pairI Rel 140 244 []) ∧ (pairI Rel 141 245 [.int a1]) ∧ (pairI Rel 142 246 []) ∧ (pairI Rel 143 247 []) ∧ (pairI Rel 144 173 []) ∧ (pairI Rel 145 174 []) ∧ (pairI Rel 146 252 [.int a1]) ∧ (pairI Rel 147 265 [.int a1, .int a2, .int a3]) ∧ (pairI Rel 148 251 [.int a1]) ∧ (pairI Rel 149 268 [.int a1, .int a2]) ∧ (pairI Rel 150 269 [.int a1, .int a2, .int a3]) ∧ (pairI Rel 151 271 [.int a1, .int a2, .long ((a3.toInt64 <<< ((32 : Int32).toInt64 &&& 63)) ||| (a4.toInt64 &&& 4294967295))]) ∧ (pairL Rel 152 272 [.int a1, .int a2]) ∧ (pairI Rel 153 273 [.int a1, .int a2, .int a3, .int a4, .int a5]) ∧ (pairI Rel 154 274 [.int a1, .int a2]) ∧ (pairI Rel 155 266 [.int a1])
theorem law_le {i L : Nat} (hL : L ≤ 3072) (hi : i ≤ 4000) (h : ¬ (Int32.ofNat L - 6 < nI i)) : i + 6 ≤ L := by
  rw [Int32.lt_iff_toInt_lt, Int32.toInt_sub, nI_toInt (by omega)] at h
  have e1 : (Int32.ofNat L).toInt = (L : Int) := nI_toInt (by omega)
  rw [e1, show (6 : Int32).toInt = 6 by decide] at h
  simp only [Int.bmod] at h
  split at h <;> omega
section LL
variable {p : Program} {l : Launch} {e : Env} {s : State} {m : MethodId} {below : List Frame} {meth : Method} {c : Code} {D : va_G} {b L : Nat} {xs : Nat → Int32} {Rel : lw_R}
theorem law_next (C : lw_C p s m meth c D b L xs) {i : Nat} {ls : Array Slot} {H : Heap} {locs : List Loc} {cells slots : Nat} {Q : State → Prop} (hS : lw_S D s b Rel i ls H locs cells slots) (kk : ∀ ls' : Array Slot, lw_S D s b Rel (i + 6) ls' H locs cells slots → W p l e room_1 s m #[Value.ref b] below meth c H locs cells slots Q (F0 m 18 ls' [])) : W p l e room_1 s m #[Value.ref b] below meth c H locs cells slots Q (F0 m 1307 ls []) := by
  obtain ⟨ρ1, ρ2, q1, q2, hX, hM, kc, kn, hR, e1, e2, hW, hT1, hT2, hl, hkc, hkn⟩ := hS
  obtain ⟨hx, hb, hml, hown, hts, hNW, hK, hXs, hbl, hL⟩ := C
  have e6 : nI i + Int32.ofInt 6 = nI (i + 6) := by
    show Int32.ofNat i + Int32.ofNat 6 = Int32.ofNat (i + 6)
    rw [Int32.ofNat_add]
  refine lv_iinc hx hb (dL okL_35 20 rfl) hl (k := 3) rfl e6 (by decide) rfl (fun ls' hl' => ?_)
  refine lv_goto (tgt := 18) hx hb (dL okL_35 21 rfl) (by decide) ?_
  exact kk ls' ⟨ρ1, ρ2, q1, q2, hX, hM, kc, kn, hR, e1, e2, hW, hT1, hT2, lv_sub hl' [1, 2, 3, 0] rfl, hkc, hkn⟩
set_option maxHeartbeats 8000000 in
set_option maxRecDepth 10000 in
theorem law_loop (C : lw_C p s m meth c D b L xs) (hr : meth.sig.returnType = ret) (hlk : meth.locks = false) (hROk : lw_ROk Rel) (hP : law_P Rel) : ∀ (n i : Nat) (ls : Array Slot) (H : Heap) (locs : List Loc) (cells slots : Nat), i ≤ L → L < n + i → lw_S D s b Rel i ls H locs cells slots → W p l e room_1 s m #[Value.ref b] below meth c H locs cells slots (lw_Z below #[Value.ref b] s) (F0 m 18 ls [])
  | 0, i, ls, H, locs, cells, slots, hi, hn, hS => by
    exact absurd hn (by omega)
  | n + 1, i, ls, H, locs, cells, slots, hi, hn, hS => by
    obtain ⟨ρ1, ρ2, q1, q2, hX, hM, kc, kn, hR, e1, e2, hW, hT1, hT2, hl, hkc, hkn⟩ := id hS
    obtain ⟨hx, hb, hml, hown, hts, hNW, hK, hXs, hbl, hL⟩ := id C
    have hbA : ¬ lw_A s b := Nat.not_le.mpr hbl
    refine lv_iload_n hx hb (dL okL_0 10 rfl) rfl (lv_at hl 3 rfl) ?_
    refine lv_aload_n hx hb (dL okL_0 11 rfl) rfl (lv_at hl 0 rfl) ?_
    refine va_slen hx hb hXs hbl hbA hW.S (dL okL_0 12 rfl) ?_
    refine lv_bipush (v := 6) hx hb (dL okL_0 13 rfl) (by decide) ?_
    refine lv_isub hx hb (dL okL_0 14 rfl) ?_
    refine lv_icmp_gt (tgt := 1313) hx hb (dL okL_0 15 rfl) (by decide) (fun _ => ?_) (fun hc => ?_)
    · refine lv_iconst (v := 1) hx hb (dL okL_35 22 rfl) (by decide) ?_
      refine va_forget (fun q hq => hW.S.2.2 q hq) ?_
      refine W.widen (k := 600000) (n := 7302250) (by omega) (by omega) ?_
      exact lw_ret hx hb hr hlk (dL okL_35 23 rfl)
    · have hi6 : i + 6 ≤ L := law_le hL (by omega) hc
      have kk : ∀ (H' : Heap) (locs' : List Loc) (cells' slots' : Nat), lw_S D s b Rel i ls H' locs' cells' slots' → W p l e room_1 s m #[Value.ref b] below meth c H' locs' cells' slots' (lw_Z below #[Value.ref b] s) (F0 m 1307 ls []) := fun H' locs' cells' slots' hS' => law_next C hS' (fun ls' hS2 => law_loop C hr hlk hROk hP n (i + 6) ls' H' locs' cells' slots' (by omega) (by omega) hS2)
      refine lv_aload_n hx hb (dL okL_0 16 rfl) rfl (lv_at hl 0 rfl) ?_
      refine lv_iload_n hx hb (dL okL_0 17 rfl) rfl (lv_at hl 3 rfl) ?_
      refine va_sld hx hb hXs hbl hbA hW.S (vp_in_nI (by omega) (by omega)) (dL okL_0 18 rfl) ?_
      refine lv_bipush (v := 63) hx hb (dL okL_0 19 rfl) (by decide) ?_
      refine lv_iand hx hb (dL okL_0 20 rfl) ?_
      obtain ⟨p0, p1, p2, p3, p4, p5, p6, p7, p8, p9, p10, p11, p12, p13, p14, p15, p16, p17, p18, p19, p20, p21, p22, p23, p24, p25, p26, p27, p28, p29, p30, p31, p32, p33, p34, p35, p36, p37⟩ := hP (xs (i + 1)) (xs (i + 2)) (xs (i + 3)) (xs (i + 4)) (xs (i + 5))
      generalize xs (nI i).toNatClampNeg &&& 63 = x
      by_cases k0 : x = 0
      · subst k0
        exact lv_tableIn (off := 167) (tgt := 200) hx hb (dL okL_0 21 rfl) (by decide) (by decide) (by decide) (by decide) (law_case_0 C hROk hi6 hS p0 kk)
      by_cases k1 : x = 1
      · subst k1
        exact lv_tableIn (off := 200) (tgt := 233) hx hb (dL okL_0 21 rfl) (by decide) (by decide) (by decide) (by decide) (law_case_1 C hROk hi6 hS p1 kk)
      by_cases k2 : x = 2
      · subst k2
        exact lv_tableIn (off := 243) (tgt := 276) hx hb (dL okL_0 21 rfl) (by decide) (by decide) (by decide) (by decide) (law_case_2 C hROk hi6 hS p2 kk)
      by_cases k3 : x = 3
      · subst k3
        exact lv_tableIn (off := 286) (tgt := 319) hx hb (dL okL_0 21 rfl) (by decide) (by decide) (by decide) (by decide) (law_case_3 C hROk hi6 hS p3 kk)
      by_cases k4 : x = 4
      · subst k4
        exact lv_tableIn (off := 319) (tgt := 352) hx hb (dL okL_0 21 rfl) (by decide) (by decide) (by decide) (by decide) (law_case_4 C hROk hi6 hS p4 kk)
      by_cases k5 : x = 5
      · subst k5
        exact lv_tableIn (off := 342) (tgt := 375) hx hb (dL okL_0 21 rfl) (by decide) (by decide) (by decide) (by decide) (law_case_5 C hROk hi6 hS p5 kk)
      by_cases k6 : x = 6
      · subst k6
        exact lv_tableIn (off := 355) (tgt := 388) hx hb (dL okL_0 21 rfl) (by decide) (by decide) (by decide) (by decide) (law_case_6 C hROk hi6 hS p6 kk)
      by_cases k7 : x = 7
      · subst k7
        exact lv_tableIn (off := 378) (tgt := 411) hx hb (dL okL_0 21 rfl) (by decide) (by decide) (by decide) (by decide) (law_case_7 C hROk hi6 hS p7 kk)
      by_cases k8 : x = 8
      · subst k8
        exact lv_tableIn (off := 411) (tgt := 444) hx hb (dL okL_0 21 rfl) (by decide) (by decide) (by decide) (by decide) (law_case_8 C hROk hi6 hS p8 kk)
      by_cases k9 : x = 9
      · subst k9
        exact lv_tableIn (off := 434) (tgt := 467) hx hb (dL okL_0 21 rfl) (by decide) (by decide) (by decide) (by decide) (law_case_9 C hROk hi6 hS p9 kk)
      by_cases k10 : x = 10
      · subst k10
        exact lv_tableIn (off := 458) (tgt := 491) hx hb (dL okL_0 21 rfl) (by decide) (by decide) (by decide) (by decide) (law_case_10 C hROk hi6 hS p10 kk)
      by_cases k11 : x = 11
      · subst k11
        exact lv_tableIn (off := 491) (tgt := 524) hx hb (dL okL_0 21 rfl) (by decide) (by decide) (by decide) (by decide) (law_case_11 C hROk hi6 hS p11 kk)
      by_cases k12 : x = 12
      · subst k12
        exact lv_tableIn (off := 524) (tgt := 557) hx hb (dL okL_0 21 rfl) (by decide) (by decide) (by decide) (by decide) (law_case_12 C hROk hi6 hS p12 kk)
      by_cases k13 : x = 13
      · subst k13
        exact lv_tableIn (off := 547) (tgt := 580) hx hb (dL okL_0 21 rfl) (by decide) (by decide) (by decide) (by decide) (law_case_13 C hROk hi6 hS p13 kk)
      by_cases k14 : x = 14
      · subst k14
        exact lv_tableIn (off := 580) (tgt := 613) hx hb (dL okL_0 21 rfl) (by decide) (by decide) (by decide) (by decide) (law_case_14 C hROk hi6 hS p14 kk)
      by_cases k15 : x = 15
      · subst k15
        exact lv_tableIn (off := 613) (tgt := 646) hx hb (dL okL_0 21 rfl) (by decide) (by decide) (by decide) (by decide) (law_case_15 C hROk hi6 hS p15 kk)
      by_cases k16 : x = 16
      · subst k16
        exact lv_tableIn (off := 657) (tgt := 690) hx hb (dL okL_0 21 rfl) (by decide) (by decide) (by decide) (by decide) (law_case_16 C hROk hi6 hS p16 kk)
      by_cases k17 : x = 17
      · subst k17
        exact lv_tableIn (off := 680) (tgt := 713) hx hb (dL okL_0 21 rfl) (by decide) (by decide) (by decide) (by decide) (law_case_17 C hROk hi6 hS p17 kk)
      by_cases k18 : x = 18
      · subst k18
        exact lv_tableIn (off := 703) (tgt := 736) hx hb (dL okL_0 21 rfl) (by decide) (by decide) (by decide) (by decide) (law_case_18 C hROk hi6 hS p18 kk)
      by_cases k19 : x = 19
      · subst k19
        exact lv_tableIn (off := 726) (tgt := 759) hx hb (dL okL_0 21 rfl) (by decide) (by decide) (by decide) (by decide) (law_case_19 C hROk hi6 hS p19 kk)
      by_cases k20 : x = 20
      · subst k20
        exact lv_tableIn (off := 769) (tgt := 802) hx hb (dL okL_0 21 rfl) (by decide) (by decide) (by decide) (by decide) (law_case_20 C hROk hi6 hS p20 kk)
      by_cases k21 : x = 21
      · subst k21
        exact lv_tableIn (off := 782) (tgt := 815) hx hb (dL okL_0 21 rfl) (by decide) (by decide) (by decide) (by decide) (law_case_21 C hROk hi6 hS p21 kk)
      by_cases k22 : x = 22
      · subst k22
        exact lv_tableIn (off := 795) (tgt := 828) hx hb (dL okL_0 21 rfl) (by decide) (by decide) (by decide) (by decide) (law_case_22 C hROk hi6 hS p22 kk)
      by_cases k23 : x = 23
      · subst k23
        exact lv_tableIn (off := 808) (tgt := 841) hx hb (dL okL_0 21 rfl) (by decide) (by decide) (by decide) (by decide) (law_case_23 C hROk hi6 hS p23 kk)
      by_cases k24 : x = 24
      · subst k24
        exact lv_tableIn (off := 831) (tgt := 864) hx hb (dL okL_0 21 rfl) (by decide) (by decide) (by decide) (by decide) (law_case_24 C hROk hi6 hS p24 kk)
      by_cases k25 : x = 25
      · subst k25
        exact lv_tableIn (off := 844) (tgt := 877) hx hb (dL okL_0 21 rfl) (by decide) (by decide) (by decide) (by decide) (law_case_25 C hROk hi6 hS p25 kk)
      by_cases k26 : x = 26
      · subst k26
        exact lv_tableIn (off := 857) (tgt := 890) hx hb (dL okL_0 21 rfl) (by decide) (by decide) (by decide) (by decide) (law_case_26 C hROk hi6 hS p26 kk)
      by_cases k27 : x = 27
      · subst k27
        exact lv_tableIn (off := 870) (tgt := 903) hx hb (dL okL_0 21 rfl) (by decide) (by decide) (by decide) (by decide) (law_case_27 C hROk hi6 hS p27 kk)
      by_cases k28 : x = 28
      · subst k28
        exact lv_tableIn (off := 883) (tgt := 916) hx hb (dL okL_0 21 rfl) (by decide) (by decide) (by decide) (by decide) (law_case_28 C hROk hi6 hS p28 kk)
      by_cases k29 : x = 29
      · subst k29
        exact lv_tableIn (off := 906) (tgt := 939) hx hb (dL okL_0 21 rfl) (by decide) (by decide) (by decide) (by decide) (law_case_29 C hROk hi6 hS p29 kk)
      by_cases k30 : x = 30
      · subst k30
        exact lv_tableIn (off := 949) (tgt := 982) hx hb (dL okL_0 21 rfl) (by decide) (by decide) (by decide) (by decide) (law_case_30 C hROk hi6 hS p30 kk)
      by_cases k31 : x = 31
      · subst k31
        exact lv_tableIn (off := 972) (tgt := 1005) hx hb (dL okL_0 21 rfl) (by decide) (by decide) (by decide) (by decide) (law_case_31 C hROk hi6 hS p31 kk)
      by_cases k32 : x = 32
      · subst k32
        exact lv_tableIn (off := 1005) (tgt := 1038) hx hb (dL okL_0 21 rfl) (by decide) (by decide) (by decide) (by decide) (law_case_32 C hROk hi6 hS p32 kk)
      by_cases k33 : x = 33
      · subst k33
        exact lv_tableIn (off := 1048) (tgt := 1081) hx hb (dL okL_0 21 rfl) (by decide) (by decide) (by decide) (by decide) (law_case_33 C hROk hi6 hS p33 kk)
      by_cases k34 : x = 34
      · subst k34
        exact lv_tableIn (off := 1121) (tgt := 1154) hx hb (dL okL_0 21 rfl) (by decide) (by decide) (by decide) (by decide) (law_case_34 C hROk hi6 hS p34 kk)
      by_cases k35 : x = 35
      · subst k35
        exact lv_tableIn (off := 1155) (tgt := 1188) hx hb (dL okL_0 21 rfl) (by decide) (by decide) (by decide) (by decide) (law_case_35 C hROk hi6 hS p35 kk)
      by_cases k36 : x = 36
      · subst k36
        exact lv_tableIn (off := 1218) (tgt := 1251) hx hb (dL okL_0 21 rfl) (by decide) (by decide) (by decide) (by decide) (law_case_36 C hROk hi6 hS p36 kk)
      by_cases k37 : x = 37
      · subst k37
        exact lv_tableIn (off := 1251) (tgt := 1284) hx hb (dL okL_0 21 rfl) (by decide) (by decide) (by decide) (by decide) (law_case_37 C hROk hi6 hS p37 kk)
      refine lv_tableOut (tgt := 1307) hx hb (dL okL_0 21 rfl) ?_ (by decide) (kk _ _ _ _ hS)
      by_cases z1 : x.toInt < 0
      · exact Or.inl z1
      · by_cases z2 : 37 < x.toInt
        · exact Or.inr z2
        · exfalso
          have t0 : x.toInt ≠ 0 := fun h => k0 (Int32.toInt_inj.mp (h.trans (by decide)))
          have t1 : x.toInt ≠ 1 := fun h => k1 (Int32.toInt_inj.mp (h.trans (by decide)))
          have t2 : x.toInt ≠ 2 := fun h => k2 (Int32.toInt_inj.mp (h.trans (by decide)))
          have t3 : x.toInt ≠ 3 := fun h => k3 (Int32.toInt_inj.mp (h.trans (by decide)))
          have t4 : x.toInt ≠ 4 := fun h => k4 (Int32.toInt_inj.mp (h.trans (by decide)))
          have t5 : x.toInt ≠ 5 := fun h => k5 (Int32.toInt_inj.mp (h.trans (by decide)))
          have t6 : x.toInt ≠ 6 := fun h => k6 (Int32.toInt_inj.mp (h.trans (by decide)))
          have t7 : x.toInt ≠ 7 := fun h => k7 (Int32.toInt_inj.mp (h.trans (by decide)))
          have t8 : x.toInt ≠ 8 := fun h => k8 (Int32.toInt_inj.mp (h.trans (by decide)))
          have t9 : x.toInt ≠ 9 := fun h => k9 (Int32.toInt_inj.mp (h.trans (by decide)))
          have t10 : x.toInt ≠ 10 := fun h => k10 (Int32.toInt_inj.mp (h.trans (by decide)))
          have t11 : x.toInt ≠ 11 := fun h => k11 (Int32.toInt_inj.mp (h.trans (by decide)))
          have t12 : x.toInt ≠ 12 := fun h => k12 (Int32.toInt_inj.mp (h.trans (by decide)))
          have t13 : x.toInt ≠ 13 := fun h => k13 (Int32.toInt_inj.mp (h.trans (by decide)))
          have t14 : x.toInt ≠ 14 := fun h => k14 (Int32.toInt_inj.mp (h.trans (by decide)))
          have t15 : x.toInt ≠ 15 := fun h => k15 (Int32.toInt_inj.mp (h.trans (by decide)))
          have t16 : x.toInt ≠ 16 := fun h => k16 (Int32.toInt_inj.mp (h.trans (by decide)))
          have t17 : x.toInt ≠ 17 := fun h => k17 (Int32.toInt_inj.mp (h.trans (by decide)))
          have t18 : x.toInt ≠ 18 := fun h => k18 (Int32.toInt_inj.mp (h.trans (by decide)))
          have t19 : x.toInt ≠ 19 := fun h => k19 (Int32.toInt_inj.mp (h.trans (by decide)))
          have t20 : x.toInt ≠ 20 := fun h => k20 (Int32.toInt_inj.mp (h.trans (by decide)))
          have t21 : x.toInt ≠ 21 := fun h => k21 (Int32.toInt_inj.mp (h.trans (by decide)))
          have t22 : x.toInt ≠ 22 := fun h => k22 (Int32.toInt_inj.mp (h.trans (by decide)))
          have t23 : x.toInt ≠ 23 := fun h => k23 (Int32.toInt_inj.mp (h.trans (by decide)))
          have t24 : x.toInt ≠ 24 := fun h => k24 (Int32.toInt_inj.mp (h.trans (by decide)))
          have t25 : x.toInt ≠ 25 := fun h => k25 (Int32.toInt_inj.mp (h.trans (by decide)))
          have t26 : x.toInt ≠ 26 := fun h => k26 (Int32.toInt_inj.mp (h.trans (by decide)))
          have t27 : x.toInt ≠ 27 := fun h => k27 (Int32.toInt_inj.mp (h.trans (by decide)))
          have t28 : x.toInt ≠ 28 := fun h => k28 (Int32.toInt_inj.mp (h.trans (by decide)))
          have t29 : x.toInt ≠ 29 := fun h => k29 (Int32.toInt_inj.mp (h.trans (by decide)))
          have t30 : x.toInt ≠ 30 := fun h => k30 (Int32.toInt_inj.mp (h.trans (by decide)))
          have t31 : x.toInt ≠ 31 := fun h => k31 (Int32.toInt_inj.mp (h.trans (by decide)))
          have t32 : x.toInt ≠ 32 := fun h => k32 (Int32.toInt_inj.mp (h.trans (by decide)))
          have t33 : x.toInt ≠ 33 := fun h => k33 (Int32.toInt_inj.mp (h.trans (by decide)))
          have t34 : x.toInt ≠ 34 := fun h => k34 (Int32.toInt_inj.mp (h.trans (by decide)))
          have t35 : x.toInt ≠ 35 := fun h => k35 (Int32.toInt_inj.mp (h.trans (by decide)))
          have t36 : x.toInt ≠ 36 := fun h => k36 (Int32.toInt_inj.mp (h.trans (by decide)))
          have t37 : x.toInt ≠ 37 := fun h => k37 (Int32.toInt_inj.mp (h.trans (by decide)))
          omega
end LL
