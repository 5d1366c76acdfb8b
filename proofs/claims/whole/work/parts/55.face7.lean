set_option maxHeartbeats 4000000 in
set_option maxRecDepth 100000 in
theorem l_X8_gcd (G : zG) (d : Nat) (Q : zQ) {u : Int64} {b : Nat} {mi : zFi} {ml : zFl} {mr : zFr} : ∀ (y x : Nat) (v8 v9 : Value), x < 2 ^ 62 → y < 2 ^ 62 → Q (some (.long (lN (Nat.gcd x y)))) mi ml mr → zE G (zRm d 238 238) (zQm G 238 238 Q) yX8_gcd.cls yX8_gcd.name cX8_gcd 10 (some .long) 238 17 [.long u, zx, .long (lN b), zx, .long (lN x), zx, .long (lN y), zx, v8, v9] [] 238 mi ml mr := by
  intro y
  induction y using Nat.strongRecOn with
  | _ y ih =>
    intro x v8 v9 hx hy hQ
    rcases Nat.eq_zero_or_pos y with e | h0
    · subst e
      rw [Nat.gcd_zero_right] at hQ
      refine e_lload 19 dX8_gcd_17 rfl rfl ?_
      refine e_lconst 20 (v := lN 0) rfl dX8_gcd_19 rfl ?_
      refine e_lcmp 21 dX8_gcd_20 rfl ?_
      refine e_if_eq 42 24 dX8_gcd_21 (by decide) rfl (fun h21 => ?_) (fun h21 => ?_)
      · refine e_lload 44 dX8_gcd_42 rfl rfl ?_
        refine e_lreturn dX8_gcd_44 rfl ?_
        exact hQ
      · exact absurd ((lg_cmp_eq (lN 0) (lN 0)).mpr rfl) h21
    · have hr := Nat.mod_lt x h0
      have hg1 : Nat.gcd x y = Nat.gcd y (x % y) := by rw [Nat.gcd_comm x y, Nat.gcd_rec y x, Nat.gcd_comm]
      rw [hg1] at hQ
      refine e_lload 19 dX8_gcd_17 rfl rfl ?_
      refine e_lconst 20 (v := lN 0) rfl dX8_gcd_19 rfl ?_
      refine e_lcmp 21 dX8_gcd_20 rfl ?_
      refine e_if_eq 42 24 dX8_gcd_21 (by decide) rfl (fun h21 => ?_) (fun h21 => ?_)
      · exact absurd ((lN_lt63 (by omega) (by decide)).2.mp ((lg_cmp_eq _ _).mp h21)) (by omega)
      · refine e_lload 26 dX8_gcd_24 rfl rfl ?_
        refine e_lload 28 dX8_gcd_26 rfl rfl ?_
        refine e_lrem 29 dX8_gcd_28 rfl (lN_ne0 (by omega) h0) ?_
        rw [lN_rem (by omega) (by omega)]
        refine e_lstore 31 dX8_gcd_29 rfl (by decide) (zst2_8 rfl) ?_
        refine e_lload 33 dX8_gcd_31 rfl rfl ?_
        refine e_lstore 35 dX8_gcd_33 rfl (by decide) (zst2_4 rfl) ?_
        refine e_lload 37 dX8_gcd_35 rfl rfl ?_
        refine e_lstore 39 dX8_gcd_37 rfl (by decide) (zst2_6 rfl) ?_
        refine e_goto 17 dX8_gcd_39 (by decide) ?_
        exact ih (x % y) hr y _ _ hy (by omega) hQ
theorem lN_int9 {a : Nat} (ha : a < 2 ^ 62) : (lN a).toInt = (a : Int) := by
  unfold lN
  rw [Int64.toInt_ofNat']
  have e9 : (Int64.size : Int) = 18446744073709551616 := rfl
  apply Int.bmod_eq_of_le <;> omega
theorem lN_neg9 {a : Nat} (ha : a < 2 ^ 62) : (-(lN a)).toInt = -(a : Int) := by
  rw [Int64.toInt_neg, lN_int9 ha]
  apply Int.bmod_eq_of_le <;> omega
theorem zAbs_ge {u : Int64} {a : Nat} (ha : a < 2 ^ 62) (h : zAbs u a) (hu : lN 0 ≤ u) : u = lN a := by
  rcases h with h | h
  · exact h
  · rw [h, Int64.le_iff_toInt_le, lN_neg9 ha, lN_int9 (by decide)] at hu
    have e : a = 0 := by omega
    rw [h, e]
    rfl
theorem zAbs_lt9 {u : Int64} {a : Nat} (ha : a < 2 ^ 62) (h : zAbs u a) (hu : ¬ lN 0 ≤ u) : -u = lN a := by
  rcases h with h | h
  · rw [h, Int64.le_iff_toInt_le, lN_int9 ha, lN_int9 (by decide)] at hu
    exact absurd (by omega) hu
  · rw [h, Int64.neg_neg]
set_option maxHeartbeats 4000000 in
set_option maxRecDepth 100000 in
theorem k_X8_gcd (G : zG) {u : Int64} {a b : Nat} {mi : zFi} {ml : zFl} {mr : zFr} (hu : zAbs u a) (ha : a < 2 ^ 62) (hb : b < 2 ^ 62) : zMet G 0 yX8_gcd cX8_gcd 10 (some .long) [.long u, .long (lN b)] 238 mi ml mr 238 (zPq (some (.long (lN (Nat.gcd a b)))) mi ml mr) := by
  refine z_intro ([.long u, zx, .long (lN b), zx, zx, zx, zx, zx, zx, zx]) (by decide) rfl (Nat.le_of_ble_eq_true rfl) ?_
  refine e_lload_n 1 dX8_gcd_0 rfl rfl ?_
  refine e_lconst 2 (v := lN 0) rfl dX8_gcd_1 rfl ?_
  refine e_lcmp 3 dX8_gcd_2 rfl ?_
  refine e_if_ge 11 6 dX8_gcd_3 (by decide) rfl (fun h3 => ?_) (fun h3 => ?_)
  · have hu9 := zAbs_ge ha hu ((lg_cmp_ge _ _).mp h3)
    refine e_lload_n 12 dX8_gcd_11 rfl rfl ?_
    rw [hu9]
    refine e_lstore 14 dX8_gcd_12 rfl (by decide) (zst2_4 rfl) ?_
    refine e_lload_n 15 dX8_gcd_14 rfl rfl ?_
    refine e_lstore 17 dX8_gcd_15 rfl (by decide) (zst2_6 rfl) ?_
    exact l_X8_gcd G 0 _ b a _ _ ha hb ⟨rfl, rfl, rfl, rfl⟩
  · have hu9 := zAbs_lt9 ha hu (fun z => h3 ((lg_cmp_ge _ _).mpr z))
    refine e_lload_n 7 dX8_gcd_6 rfl rfl ?_
    refine e_lneg 8 dX8_gcd_7 rfl ?_
    refine e_goto 12 dX8_gcd_8 (by decide) ?_
    rw [hu9]
    refine e_lstore 14 dX8_gcd_12 rfl (by decide) (zst2_4 rfl) ?_
    refine e_lload_n 15 dX8_gcd_14 rfl rfl ?_
    refine e_lstore 17 dX8_gcd_15 rfl (by decide) (zst2_6 rfl) ?_
    exact l_X8_gcd G 0 _ b a _ _ ha hb ⟨rfl, rfl, rfl, rfl⟩

set_option maxHeartbeats 4000000 in
set_option maxRecDepth 100000 in
theorem k_X8_part (G : zG) {u : Int64} {a b k : Nat} {mi : zFi} {ml : zFl} {mr : zFr} (hu : zAbs u a) (ha : a < 2 ^ 62) (hb : b < 2 ^ 62) (hb0 : 0 < b) (hk : k ≤ 1) : zMet G 1 yX8_part cX8_part 7 (some .long) [.long u, .long (lN b), .int (nI k)] 238 mi ml mr 238 (zPq (some (.long (sFrac u a b k))) mi ml mr) := by
  refine z_intro ([.long u, zx, .long (lN b), zx, .int (nI k), zx, zx]) (by decide) rfl (Nat.le_of_ble_eq_true rfl) ?_
  refine e_lload_n 1 dX8_part_0 rfl rfl ?_
  refine e_lload_n 2 dX8_part_1 rfl rfl ?_
  refine c_Sql 5 dX8_part_2 (k_X8_gcd G hu ha hb) lm_X8_208 zt_yX8_gcd rfl rfl rfl (Nat.le_of_ble_eq_true rfl) (Nat.le_of_ble_eq_true rfl) (Nat.le_of_ble_eq_true rfl) (by exact Nat.le_refl _) (by exact Nat.le_refl _) ?_
  have hg0 : 0 < Nat.gcd a b := Nat.gcd_pos_of_pos_right _ hb0
  have hgb : Nat.gcd a b ≤ b := Nat.gcd_le_right _ hb0
  refine e_lstore 7 dX8_part_5 rfl (by decide) (zst2_5 rfl) ?_
  refine e_iload 9 dX8_part_7 rfl rfl ?_
  refine e_if_neN 19 12 dX8_part_9 (by decide) rfl (by omega) (fun h9 => ?_) (fun h9 => ?_)
  · refine e_lload_n 20 dX8_part_19 rfl rfl ?_
    refine e_lload 22 dX8_part_20 rfl rfl ?_
    refine e_ldiv 23 dX8_part_22 rfl (lN_ne0 (by omega) hg0) ?_
    refine e_lreturn dX8_part_23 rfl ?_
    refine ⟨congrArg (fun z => some (Value.long z)) ?_, rfl, rfl, rfl⟩
    unfold sFrac
    first | rw [if_pos h9] | rw [if_neg (by omega)]
  · refine e_lload_n 13 dX8_part_12 rfl rfl ?_
    refine e_lload 15 dX8_part_13 rfl rfl ?_
    refine e_ldiv 16 dX8_part_15 rfl (lN_ne0 (by omega) hg0) ?_
    refine e_goto 23 dX8_part_16 (by decide) ?_
    refine e_lreturn dX8_part_23 rfl ?_
    refine ⟨congrArg (fun z => some (Value.long z)) ?_, rfl, rfl, rfl⟩
    unfold sFrac
    first | rw [if_pos h9] | rw [if_neg (by omega)]

