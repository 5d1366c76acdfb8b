set_option maxHeartbeats 4000000 in
set_option maxRecDepth 100000 in
theorem k_X8_near (G : zG) {D E : Nat} {Λ : zLd} {late : Nat} {tr : Int64} {t : zTx} {m : zMo} {im : Nat → Nat × zMo} {l : zLt} {r : zWr} {mi : zFi} {ml : zFl} {mr : zFr} (hr : zRf mr D E) (hY : zY mi ml Λ late tr t m im l r) (hF : zWf Λ late t m im l r) {p q : Int32} : zMet G 2 yX8_near cX8_near 3 (some .int) [.ref 224, .int p, .int q] 238 mi ml mr 238 (zPi fun x u b c => x = sNear Λ p q ∧ zY u b Λ late tr t m im l r ∧ (∀ q, q < 224 → u q = mi q) ∧ b = ml ∧ c = mr) := by
  obtain ⟨hW, hla30, htw, hmw, himw, hlw, hrw⟩ := id hF
  have hP3 := hW.1.1
  have hW5 := hW.1.2.1
  have hy99 := hmw.1
  refine z_intro ([.ref 224, .int p, .int q]) (by decide) rfl (Nat.le_of_ble_eq_true rfl) ?_
  refine e_aload_n 1 dX8_near_0 rfl rfl ?_
  refine e_iconst 2 hic_0 dX8_near_1 rfl ?_
  refine e_puti 5 dX8_near_2 lf_X8_56 rfl rfl rfl rfl rfl (by decide) ?_
  obtain ⟨m1, em, hfr⟩ : ∃ m1, m1 = zp mi 224 0 (nI 0) ∧ ∀ q, q ≠ 224 → m1 q = mi q := ⟨_, rfl, fun q hq => zp_r _ _ _ hq⟩
  have hY := hY.th (k := 0) (v := nI 0) (Or.inl rfl)
  rw [← em] at hY ⊢
  obtain ⟨hd, hlate, htr, ht, hs, him, hl, hw⟩ := id hY
  refine e_aload_n 6 dX8_near_5 rfl rfl ?_
  refine e_iload_n 7 dX8_near_6 rfl rfl ?_
  refine c_Vqi 10 (ci := 8) dX8_near_7 (k_X8_isPlace G hr hd hW) lm_X8_153 zi_yX8_isPlace zs_yX8_isPlace rfl rfl (by decide) rfl rfl rfl (Nat.le_of_ble_eq_true rfl) (Nat.le_of_ble_eq_true rfl) (Nat.le_of_ble_eq_true rfl) (by exact Nat.le_refl _) (by exact Nat.le_refl _) ?_
  refine e_if_eq 39 13 dX8_near_10 (by decide) rfl (fun h10 => ?_) (fun h10 => ?_)
  · have h10 := zB_0 h10
    refine e_iconst 40 hic_m1 dX8_near_39 rfl ?_
    refine e_ireturn .int dX8_near_40 rfl rfl ?_
    exact ⟨_, rfl, by first | exact ((iteP h10).trans ((iteP h18).trans (if_neg hk))).symm | exact ((iteP h10).trans ((iteP h18).trans (if_pos hk))).symm | exact (iteN h10).symm | exact ((iteP h10).trans (iteN h18)).symm, hY, fun q hq => hfr q (by omega), rfl, rfl⟩
  · have h10 := zB_1 h10
    obtain ⟨ep, hp9⟩ := h10.nat
    refine e_aload_n 14 dX8_near_13 rfl rfl ?_
    refine e_iload_n 15 dX8_near_14 rfl rfl ?_
    refine c_Vqi 18 (ci := 8) dX8_near_15 (k_X8_isPlace G hr hd hW) lm_X8_153 zi_yX8_isPlace zs_yX8_isPlace rfl rfl (by decide) rfl rfl rfl (Nat.le_of_ble_eq_true rfl) (Nat.le_of_ble_eq_true rfl) (Nat.le_of_ble_eq_true rfl) (by exact Nat.le_refl _) (by exact Nat.le_refl _) ?_
    refine e_if_eq 39 21 dX8_near_18 (by decide) rfl (fun h18 => ?_) (fun h18 => ?_)
    · have h18 := zB_0 h18
      refine e_iconst 40 hic_m1 dX8_near_39 rfl ?_
      refine e_ireturn .int dX8_near_40 rfl rfl ?_
      exact ⟨_, rfl, by first | exact ((iteP h10).trans ((iteP h18).trans (if_neg hk))).symm | exact ((iteP h10).trans ((iteP h18).trans (if_pos hk))).symm | exact (iteN h10).symm | exact ((iteP h10).trans (iteN h18)).symm, hY, fun q hq => hfr q (by omega), rfl, rfl⟩
    · have h18 := zB_1 h18
      obtain ⟨eq9, hq9⟩ := h18.nat
      refine e_iload_n 22 dX8_near_21 rfl rfl ?_
      refine e_iload_n 23 dX8_near_22 rfl rfl ?_
      refine e_icmp_eq 39 26 dX8_near_23 (by decide) rfl (fun h23 => ?_) (fun h23 => ?_)
      · have hk : zK p = zK q := by rw [h23]
        refine e_iconst 40 hic_m1 dX8_near_39 rfl ?_
        refine e_ireturn .int dX8_near_40 rfl rfl ?_
        exact ⟨_, rfl, by first | exact ((iteP h10).trans ((iteP h18).trans (if_neg hk))).symm | exact ((iteP h10).trans ((iteP h18).trans (if_pos hk))).symm | exact (iteN h10).symm | exact ((iteP h10).trans (iteN h18)).symm, hY, fun q hq => hfr q (by omega), rfl, rfl⟩
      · have hk : ¬ zK p = zK q := fun z => h23 (by rw [ep, eq9, z])
        have hnr := hd.2.2.1 (3 * zK p + zK q) (by omega)
        rw [show (Value.int p) = Value.int (nI (zK p)) from congrArg Value.int ep]
        rw [show (Value.int q) = Value.int (nI (zK q)) from congrArg Value.int eq9]
        refine e_aload_n 27 dX8_near_26 rfl rfl ?_
        refine e_getr 30 dX8_near_27 lf_X8_29 rfl rfl rfl (by decide) hr.yn ?_
        refine e_iconst 31 hic_3 dX8_near_30 rfl ?_
        refine e_iload_n 32 dX8_near_31 rfl rfl ?_
        first | refine e_imulN 33 dX8_near_32 rfl ?_ | refine e_imul 33 dX8_near_32 rfl ?_
        refine e_iload_n 34 dX8_near_33 rfl rfl ?_
        first | refine e_iaddN 35 dX8_near_34 rfl ?_ | refine e_iadd 35 dX8_near_34 rfl ?_
        refine e_iald (v := nI (Λ 1 (3 * zK p + zK q))) 36 dX8_near_35 rfl rfl (by decide) rfl (by show 3 * zK p + zK q < 18; omega) hnr ?_
        refine e_goto 40 dX8_near_36 (by decide) ?_
        refine e_ireturn .int dX8_near_40 rfl rfl ?_
        exact ⟨_, rfl, by first | exact ((iteP h10).trans ((iteP h18).trans (if_neg hk))).symm | exact ((iteP h10).trans ((iteP h18).trans (if_pos hk))).symm | exact (iteN h10).symm | exact ((iteP h10).trans (iteN h18)).symm, hY, fun q hq => hfr q (by omega), rfl, rfl⟩

theorem sWordY_at {mi : zFi} {Λ : zLd} {y : Nat} {w what : Int32} (hd : zYd mi Λ) (hw : vN w (Λ 0 1)) (h : vR what 0 4) (h4 : zK what < 4) : mi 232 (4 * zK w + zK what) = sWord Λ y w what := by
  have hN : vN what 5 := ⟨h.1, by have := h.2; omega⟩
  have e1 : sWord Λ y w what = nI (if zK what = 4 then (if Λ 3 (zK w) ≤ y then 1 else 0) else Λ (2 + zK what) (zK w)) := (iteP hw).trans (iteP hN)
  rw [e1, if_neg (by omega)]
  exact hd.2.2.2 _ hw.nat.2 _ h4
theorem sWordY_c {Λ : zLd} {y : Nat} {w what : Int32} (hw : vN w (Λ 0 1)) (h : vR what 0 4) (h4 : ¬ zK what < 4) : sWord Λ y w what = nI (if Λ 3 (zK w) ≤ y then 1 else 0) := by
  have hN : vN what 5 := ⟨h.1, by have := h.2; omega⟩
  have e1 : sWord Λ y w what = nI (if zK what = 4 then (if Λ 3 (zK w) ≤ y then 1 else 0) else Λ (2 + zK what) (zK w)) := (iteP hw).trans (iteP hN)
  have := h.nat.2.2
  rw [e1, if_pos (by omega)]
set_option maxHeartbeats 4000000 in
set_option maxRecDepth 100000 in
theorem k_X8_word (G : zG) {D E : Nat} {Λ : zLd} {late : Nat} {tr : Int64} {t : zTx} {m : zMo} {im : Nat → Nat × zMo} {l : zLt} {r : zWr} {mi : zFi} {ml : zFl} {mr : zFr} (hr : zRf mr D E) (hY : zY mi ml Λ late tr t m im l r) (hF : zWf Λ late t m im l r) {w what : Int32} : zMet G 2 yX8_word cX8_word 3 (some .int) [.ref 224, .int w, .int what] 238 mi ml mr 238 (zPi fun x u b c => x = sWord Λ m.1 w what ∧ zY u b Λ late tr t m im l r ∧ (∀ q, q < 224 → u q = mi q) ∧ b = ml ∧ c = mr) := by
  obtain ⟨hW, hla30, htw, hmw, himw, hlw, hrw⟩ := id hF
  have hP3 := hW.1.1
  have hW5 := hW.1.2.1
  have hy99 := hmw.1
  refine z_intro ([.ref 224, .int w, .int what]) (by decide) rfl (Nat.le_of_ble_eq_true rfl) ?_
  refine e_aload_n 1 dX8_word_0 rfl rfl ?_
  refine e_iconst 2 hic_0 dX8_word_1 rfl ?_
  refine e_puti 5 dX8_word_2 lf_X8_56 rfl rfl rfl rfl rfl (by decide) ?_
  obtain ⟨m1, em, hfr⟩ : ∃ m1, m1 = zp mi 224 0 (nI 0) ∧ ∀ q, q ≠ 224 → m1 q = mi q := ⟨_, rfl, fun q hq => zp_r _ _ _ hq⟩
  have hY := hY.th (k := 0) (v := nI 0) (Or.inl rfl)
  rw [← em] at hY ⊢
  obtain ⟨hd, hlate, htr, ht, hs, him, hl, hw⟩ := id hY
  refine e_aload_n 6 dX8_word_5 rfl rfl ?_
  refine e_iload_n 7 dX8_word_6 rfl rfl ?_
  refine c_Vqi 10 (ci := 8) dX8_word_7 (k_X8_isWord G hr hd hW) lm_X8_156 zi_yX8_isWord zs_yX8_isWord rfl rfl (by decide) rfl rfl rfl (Nat.le_of_ble_eq_true rfl) (Nat.le_of_ble_eq_true rfl) (Nat.le_of_ble_eq_true rfl) (by exact Nat.le_refl _) (by exact Nat.le_refl _) ?_
  refine e_if_eq 22 13 dX8_word_10 (by decide) rfl (fun h10 => ?_) (fun h10 => ?_)
  · have h10 := zB_0 h10
    refine e_iconst 23 hic_m1 dX8_word_22 rfl ?_
    refine e_goto 57 dX8_word_23 (by decide) ?_
    refine e_ireturn .int dX8_word_57 rfl rfl ?_
    exact ⟨_, rfl, by first | rfl | (rw [sWordY_c h10 h19 (by omega), if_pos h49]) | (rw [sWordY_c h10 h19 (by omega), if_neg h49]) | exact (iteN h10).symm | exact ((iteP h10).trans (iteN (fun z : vN what 5 => h19 ⟨z.1, by have := z.2; omega⟩))).symm, hY, fun q hq => hfr q (by omega), rfl, rfl⟩
  · have h10 := zB_1 h10
    obtain ⟨ew, hw9⟩ := h10.nat
    refine e_iload_n 14 dX8_word_13 rfl rfl ?_
    refine e_iconst 15 hic_0 dX8_word_14 rfl ?_
    refine e_iconst 16 hic_4 dX8_word_15 rfl ?_
    refine c_Sqi 19 dX8_word_16 (k_X8_inN G (by decide) (by decide)) lm_X8_60 zt_yX8_in rfl rfl rfl (Nat.le_of_ble_eq_true rfl) (Nat.le_of_ble_eq_true rfl) (Nat.le_of_ble_eq_true rfl) (by exact Nat.le_refl _) (by exact Nat.le_refl _) ?_
    refine e_if_ne 26 22 dX8_word_19 (by decide) rfl (fun h19 => ?_) (fun h19 => ?_)
    · have h19 := zB_1 h19
      obtain ⟨ewhat, hk1, hk2⟩ := h19.nat
      rw [show (Value.int what) = Value.int (nI (zK what)) from congrArg Value.int ewhat]
      rw [show (Value.int w) = Value.int (nI (zK w)) from congrArg Value.int ew]
      refine e_iload_n 27 dX8_word_26 rfl rfl ?_
      refine e_iconst 28 hic_4 dX8_word_27 rfl ?_
      refine e_icmp_geN 44 31 dX8_word_28 (by decide) rfl (by omega) (by omega) (fun h28 => ?_) (fun h28 => ?_)
      · refine e_aload_n 45 dX8_word_44 rfl rfl ?_
        refine e_iload_n 46 dX8_word_45 rfl rfl ?_
        refine c_Vqi 49 (ci := 8) dX8_word_46 (k_X8_isCoined G hr hd hW hw9 hs.1 hy99) lm_X8_159 zi_yX8_isCoined zs_yX8_isCoined rfl rfl (by decide) rfl rfl rfl (Nat.le_of_ble_eq_true rfl) (Nat.le_of_ble_eq_true rfl) (Nat.le_of_ble_eq_true rfl) (by exact Nat.le_refl _) (by exact Nat.le_refl _) ?_
        refine e_if_eq 56 52 dX8_word_49 (by decide) rfl (fun h49 => ?_) (fun h49 => ?_)
        · have h49 := zB_0 h49
          refine e_iconst 57 hic_0 dX8_word_56 rfl ?_
          refine e_ireturn .int dX8_word_57 rfl rfl ?_
          exact ⟨_, rfl, by first | rfl | (rw [sWordY_c h10 h19 (by omega), if_pos h49]) | (rw [sWordY_c h10 h19 (by omega), if_neg h49]) | exact (iteN h10).symm | exact ((iteP h10).trans (iteN (fun z : vN what 5 => h19 ⟨z.1, by have := z.2; omega⟩))).symm, hY, fun q hq => hfr q (by omega), rfl, rfl⟩
        · have h49 := zB_1 h49
          refine e_iconst 53 hic_1 dX8_word_52 rfl ?_
          refine e_goto 57 dX8_word_53 (by decide) ?_
          refine e_ireturn .int dX8_word_57 rfl rfl ?_
          exact ⟨_, rfl, by first | rfl | (rw [sWordY_c h10 h19 (by omega), if_pos h49]) | (rw [sWordY_c h10 h19 (by omega), if_neg h49]) | exact (iteN h10).symm | exact ((iteP h10).trans (iteN (fun z : vN what 5 => h19 ⟨z.1, by have := z.2; omega⟩))).symm, hY, fun q hq => hfr q (by omega), rfl, rfl⟩
      · refine e_aload_n 32 dX8_word_31 rfl rfl ?_
        refine e_getr 35 dX8_word_32 lf_X8_32 rfl rfl rfl (by decide) hr.yw ?_
        refine e_iconst 36 hic_4 dX8_word_35 rfl ?_
        refine e_iload_n 37 dX8_word_36 rfl rfl ?_
        first | refine e_imulN 38 dX8_word_37 rfl ?_ | refine e_imul 38 dX8_word_37 rfl ?_
        refine e_iload_n 39 dX8_word_38 rfl rfl ?_
        first | refine e_iaddN 40 dX8_word_39 rfl ?_ | refine e_iadd 40 dX8_word_39 rfl ?_
        refine e_iald (v := (sWord Λ m.1 w what)) 41 dX8_word_40 rfl rfl (by decide) rfl (by show 4 * zK w + zK what < 40; omega) (sWordY_at hd h10 h19 (by omega)) ?_
        refine e_goto 57 dX8_word_41 (by decide) ?_
        refine e_ireturn .int dX8_word_57 rfl rfl ?_
        exact ⟨_, rfl, by first | rfl | (rw [sWordY_c h10 h19 (by omega), if_pos h49]) | (rw [sWordY_c h10 h19 (by omega), if_neg h49]) | exact (iteN h10).symm | exact ((iteP h10).trans (iteN (fun z : vN what 5 => h19 ⟨z.1, by have := z.2; omega⟩))).symm, hY, fun q hq => hfr q (by omega), rfl, rfl⟩
    · have h19 := zB_0 h19
      refine e_iconst 23 hic_m1 dX8_word_22 rfl ?_
      refine e_goto 57 dX8_word_23 (by decide) ?_
      refine e_ireturn .int dX8_word_57 rfl rfl ?_
      exact ⟨_, rfl, by first | rfl | (rw [sWordY_c h10 h19 (by omega), if_pos h49]) | (rw [sWordY_c h10 h19 (by omega), if_neg h49]) | exact (iteN h10).symm | exact ((iteP h10).trans (iteN (fun z : vN what 5 => h19 ⟨z.1, by have := z.2; omega⟩))).symm, hY, fun q hq => hfr q (by omega), rfl, rfl⟩

set_option maxHeartbeats 4000000 in
set_option maxRecDepth 100000 in
theorem k_X8_count_0 (G : zG) {D E : Nat} {Λ : zLd} {late : Nat} {tr : Int64} {t : zTx} {m : zMo} {im : Nat → Nat × zMo} {l : zLt} {r : zWr} {mi : zFi} {ml : zFl} {mr : zFr} (hr : zRf mr D E) (hY : zY mi ml Λ late tr t m im l r) (hF : zWf Λ late t m im l r)  : zMet G 0 yX8_count cX8_count 2 (some .int) [.ref 224, .int (nI 0)] 238 mi ml mr 238 (zPi fun x u b c => x = sCount Λ t m r (nI 0) ∧ zY u b Λ late tr t m im l r ∧ (∀ q, q < 224 → u q = mi q) ∧ b = ml ∧ c = mr) := by
  obtain ⟨hW, hla30, htw, hmw, himw, hlw, hrw⟩ := id hF
  have hP3 := hW.1.1
  have hW5 := hW.1.2.1
  have hy99 := hmw.1
  refine z_intro ([.ref 224, .int (nI 0)]) (by decide) rfl (Nat.le_of_ble_eq_true rfl) ?_
  refine e_aload_n 1 dX8_count_0 rfl rfl ?_
  refine e_iconst 2 hic_0 dX8_count_1 rfl ?_
  refine e_puti 5 dX8_count_2 lf_X8_56 rfl rfl rfl rfl rfl (by decide) ?_
  obtain ⟨m1, em, hfr⟩ : ∃ m1, m1 = zp mi 224 0 (nI 0) ∧ ∀ q, q ≠ 224 → m1 q = mi q := ⟨_, rfl, fun q hq => zp_r _ _ _ hq⟩
  have hY := hY.th (k := 0) (v := nI 0) (Or.inl rfl)
  rw [← em] at hY ⊢
  obtain ⟨hd, hlate, htr, ht, hs, him, hl, hw⟩ := id hY
  refine e_iload_n 6 dX8_count_5 rfl rfl ?_
  refine e_if_neN 16 9 dX8_count_6 (by decide) rfl (by decide) (fun h6 => ?_) (fun h6 => ?_)
  · exact absurd h6 (by decide)
  · refine e_aload_n 10 dX8_count_9 rfl rfl ?_
    refine e_geti 13 dX8_count_10 lf_X8_138 rfl rfl rfl (by decide) hd.1.1 ?_
    refine e_goto 81 dX8_count_13 (by decide) ?_
    refine e_ireturn .int dX8_count_81 rfl rfl ?_
    exact ⟨_, rfl, (iteP (show vN (nI 0) 6 from (vN_nI (by decide)).mpr (by decide))).symm, hY, fun q hq => hfr q (by omega), rfl, rfl⟩

set_option maxHeartbeats 4000000 in
set_option maxRecDepth 100000 in
theorem k_X8_count_1 (G : zG) {D E : Nat} {Λ : zLd} {late : Nat} {tr : Int64} {t : zTx} {m : zMo} {im : Nat → Nat × zMo} {l : zLt} {r : zWr} {mi : zFi} {ml : zFl} {mr : zFr} (hr : zRf mr D E) (hY : zY mi ml Λ late tr t m im l r) (hF : zWf Λ late t m im l r)  : zMet G 0 yX8_count cX8_count 2 (some .int) [.ref 224, .int (nI 1)] 238 mi ml mr 238 (zPi fun x u b c => x = sCount Λ t m r (nI 1) ∧ zY u b Λ late tr t m im l r ∧ (∀ q, q < 224 → u q = mi q) ∧ b = ml ∧ c = mr) := by
  obtain ⟨hW, hla30, htw, hmw, himw, hlw, hrw⟩ := id hF
  have hP3 := hW.1.1
  have hW5 := hW.1.2.1
  have hy99 := hmw.1
  refine z_intro ([.ref 224, .int (nI 1)]) (by decide) rfl (Nat.le_of_ble_eq_true rfl) ?_
  refine e_aload_n 1 dX8_count_0 rfl rfl ?_
  refine e_iconst 2 hic_0 dX8_count_1 rfl ?_
  refine e_puti 5 dX8_count_2 lf_X8_56 rfl rfl rfl rfl rfl (by decide) ?_
  obtain ⟨m1, em, hfr⟩ : ∃ m1, m1 = zp mi 224 0 (nI 0) ∧ ∀ q, q ≠ 224 → m1 q = mi q := ⟨_, rfl, fun q hq => zp_r _ _ _ hq⟩
  have hY := hY.th (k := 0) (v := nI 0) (Or.inl rfl)
  rw [← em] at hY ⊢
  obtain ⟨hd, hlate, htr, ht, hs, him, hl, hw⟩ := id hY
  refine e_iload_n 6 dX8_count_5 rfl rfl ?_
  refine e_if_neN 16 9 dX8_count_6 (by decide) rfl (by decide) (fun h6 => ?_) (fun h6 => ?_)
  · refine e_iload_n 17 dX8_count_16 rfl rfl ?_
    refine e_iconst 18 hic_1 dX8_count_17 rfl ?_
    refine e_icmp_neN 28 21 dX8_count_18 (by decide) rfl (by decide) (by decide) (fun h18 => ?_) (fun h18 => ?_)
    · exact absurd h18 (by decide)
    · refine e_aload_n 22 dX8_count_21 rfl rfl ?_
      refine e_geti 25 dX8_count_22 lf_X8_141 rfl rfl rfl (by decide) hd.1.2 ?_
      refine e_goto 81 dX8_count_25 (by decide) ?_
      refine e_ireturn .int dX8_count_81 rfl rfl ?_
      exact ⟨_, rfl, (iteP (show vN (nI 1) 6 from (vN_nI (by decide)).mpr (by decide))).symm, hY, fun q hq => hfr q (by omega), rfl, rfl⟩
  · exact absurd h6 (by decide)

set_option maxHeartbeats 4000000 in
set_option maxRecDepth 100000 in
theorem k_X8_count_2 (G : zG) {D E : Nat} {Λ : zLd} {late : Nat} {tr : Int64} {t : zTx} {m : zMo} {im : Nat → Nat × zMo} {l : zLt} {r : zWr} {mi : zFi} {ml : zFl} {mr : zFr} (hr : zRf mr D E) (hY : zY mi ml Λ late tr t m im l r) (hF : zWf Λ late t m im l r)  : zMet G 0 yX8_count cX8_count 2 (some .int) [.ref 224, .int (nI 2)] 238 mi ml mr 238 (zPi fun x u b c => x = sCount Λ t m r (nI 2) ∧ zY u b Λ late tr t m im l r ∧ (∀ q, q < 224 → u q = mi q) ∧ b = ml ∧ c = mr) := by
  obtain ⟨hW, hla30, htw, hmw, himw, hlw, hrw⟩ := id hF
  have hP3 := hW.1.1
  have hW5 := hW.1.2.1
  have hy99 := hmw.1
  refine z_intro ([.ref 224, .int (nI 2)]) (by decide) rfl (Nat.le_of_ble_eq_true rfl) ?_
  refine e_aload_n 1 dX8_count_0 rfl rfl ?_
  refine e_iconst 2 hic_0 dX8_count_1 rfl ?_
  refine e_puti 5 dX8_count_2 lf_X8_56 rfl rfl rfl rfl rfl (by decide) ?_
  obtain ⟨m1, em, hfr⟩ : ∃ m1, m1 = zp mi 224 0 (nI 0) ∧ ∀ q, q ≠ 224 → m1 q = mi q := ⟨_, rfl, fun q hq => zp_r _ _ _ hq⟩
  have hY := hY.th (k := 0) (v := nI 0) (Or.inl rfl)
  rw [← em] at hY ⊢
  obtain ⟨hd, hlate, htr, ht, hs, him, hl, hw⟩ := id hY
  refine e_iload_n 6 dX8_count_5 rfl rfl ?_
  refine e_if_neN 16 9 dX8_count_6 (by decide) rfl (by decide) (fun h6 => ?_) (fun h6 => ?_)
  · refine e_iload_n 17 dX8_count_16 rfl rfl ?_
    refine e_iconst 18 hic_1 dX8_count_17 rfl ?_
    refine e_icmp_neN 28 21 dX8_count_18 (by decide) rfl (by decide) (by decide) (fun h18 => ?_) (fun h18 => ?_)
    · refine e_iload_n 29 dX8_count_28 rfl rfl ?_
      refine e_iconst 30 hic_2 dX8_count_29 rfl ?_
      refine e_icmp_neN 42 33 dX8_count_30 (by decide) rfl (by decide) (by decide) (fun h30 => ?_) (fun h30 => ?_)
      · exact absurd h30 (by decide)
      · refine e_aload_n 34 dX8_count_33 rfl rfl ?_
        refine e_getr 37 dX8_count_34 lf_X8_7 rfl rfl rfl (by decide) hr.ys ?_
        refine e_iconst 38 hic_0 dX8_count_37 rfl ?_
        refine e_iald (v := nI m.1) 39 dX8_count_38 rfl rfl (by decide) rfl (by show 0 < 2950; omega) hs.1 ?_
        refine e_goto 81 dX8_count_39 (by decide) ?_
        refine e_ireturn .int dX8_count_81 rfl rfl ?_
        exact ⟨_, rfl, (iteP (show vN (nI 2) 6 from (vN_nI (by decide)).mpr (by decide))).symm, hY, fun q hq => hfr q (by omega), rfl, rfl⟩
    · exact absurd h18 (by decide)
  · exact absurd h6 (by decide)

set_option maxHeartbeats 4000000 in
set_option maxRecDepth 100000 in
theorem k_X8_count_3 (G : zG) {D E : Nat} {Λ : zLd} {late : Nat} {tr : Int64} {t : zTx} {m : zMo} {im : Nat → Nat × zMo} {l : zLt} {r : zWr} {mi : zFi} {ml : zFl} {mr : zFr} (hr : zRf mr D E) (hY : zY mi ml Λ late tr t m im l r) (hF : zWf Λ late t m im l r)  : zMet G 0 yX8_count cX8_count 2 (some .int) [.ref 224, .int (nI 3)] 238 mi ml mr 238 (zPi fun x u b c => x = sCount Λ t m r (nI 3) ∧ zY u b Λ late tr t m im l r ∧ (∀ q, q < 224 → u q = mi q) ∧ b = ml ∧ c = mr) := by
  obtain ⟨hW, hla30, htw, hmw, himw, hlw, hrw⟩ := id hF
  have hP3 := hW.1.1
  have hW5 := hW.1.2.1
  have hy99 := hmw.1
  refine z_intro ([.ref 224, .int (nI 3)]) (by decide) rfl (Nat.le_of_ble_eq_true rfl) ?_
  refine e_aload_n 1 dX8_count_0 rfl rfl ?_
  refine e_iconst 2 hic_0 dX8_count_1 rfl ?_
  refine e_puti 5 dX8_count_2 lf_X8_56 rfl rfl rfl rfl rfl (by decide) ?_
  obtain ⟨m1, em, hfr⟩ : ∃ m1, m1 = zp mi 224 0 (nI 0) ∧ ∀ q, q ≠ 224 → m1 q = mi q := ⟨_, rfl, fun q hq => zp_r _ _ _ hq⟩
  have hY := hY.th (k := 0) (v := nI 0) (Or.inl rfl)
  rw [← em] at hY ⊢
  obtain ⟨hd, hlate, htr, ht, hs, him, hl, hw⟩ := id hY
  refine e_iload_n 6 dX8_count_5 rfl rfl ?_
  refine e_if_neN 16 9 dX8_count_6 (by decide) rfl (by decide) (fun h6 => ?_) (fun h6 => ?_)
  · refine e_iload_n 17 dX8_count_16 rfl rfl ?_
    refine e_iconst 18 hic_1 dX8_count_17 rfl ?_
    refine e_icmp_neN 28 21 dX8_count_18 (by decide) rfl (by decide) (by decide) (fun h18 => ?_) (fun h18 => ?_)
    · refine e_iload_n 29 dX8_count_28 rfl rfl ?_
      refine e_iconst 30 hic_2 dX8_count_29 rfl ?_
      refine e_icmp_neN 42 33 dX8_count_30 (by decide) rfl (by decide) (by decide) (fun h30 => ?_) (fun h30 => ?_)
      · refine e_iload_n 43 dX8_count_42 rfl rfl ?_
        refine e_iconst 44 hic_3 dX8_count_43 rfl ?_
        refine e_icmp_neN 56 47 dX8_count_44 (by decide) rfl (by decide) (by decide) (fun h44 => ?_) (fun h44 => ?_)
        · exact absurd h44 (by decide)
        · refine e_aload_n 48 dX8_count_47 rfl rfl ?_
          refine e_getr 51 dX8_count_48 lf_X8_7 rfl rfl rfl (by decide) hr.ys ?_
          refine e_iconst 52 hic_2 dX8_count_51 rfl ?_
          refine e_iald (v := nI (m.2.2.1 0 0)) 53 dX8_count_52 rfl rfl (by decide) rfl (by show 2 < 2950; omega) hs.2.2.1.1 ?_
          refine e_goto 81 dX8_count_53 (by decide) ?_
          refine e_ireturn .int dX8_count_81 rfl rfl ?_
          exact ⟨_, rfl, (iteP (show vN (nI 3) 6 from (vN_nI (by decide)).mpr (by decide))).symm, hY, fun q hq => hfr q (by omega), rfl, rfl⟩
      · exact absurd h30 (by decide)
    · exact absurd h18 (by decide)
  · exact absurd h6 (by decide)

set_option maxHeartbeats 4000000 in
set_option maxRecDepth 100000 in
theorem k_X8_count_4 (G : zG) {D E : Nat} {Λ : zLd} {late : Nat} {tr : Int64} {t : zTx} {m : zMo} {im : Nat → Nat × zMo} {l : zLt} {r : zWr} {mi : zFi} {ml : zFl} {mr : zFr} (hr : zRf mr D E) (hY : zY mi ml Λ late tr t m im l r) (hF : zWf Λ late t m im l r)  : zMet G 0 yX8_count cX8_count 2 (some .int) [.ref 224, .int (nI 4)] 238 mi ml mr 238 (zPi fun x u b c => x = sCount Λ t m r (nI 4) ∧ zY u b Λ late tr t m im l r ∧ (∀ q, q < 224 → u q = mi q) ∧ b = ml ∧ c = mr) := by
  obtain ⟨hW, hla30, htw, hmw, himw, hlw, hrw⟩ := id hF
  have hP3 := hW.1.1
  have hW5 := hW.1.2.1
  have hy99 := hmw.1
  refine z_intro ([.ref 224, .int (nI 4)]) (by decide) rfl (Nat.le_of_ble_eq_true rfl) ?_
  refine e_aload_n 1 dX8_count_0 rfl rfl ?_
  refine e_iconst 2 hic_0 dX8_count_1 rfl ?_
  refine e_puti 5 dX8_count_2 lf_X8_56 rfl rfl rfl rfl rfl (by decide) ?_
  obtain ⟨m1, em, hfr⟩ : ∃ m1, m1 = zp mi 224 0 (nI 0) ∧ ∀ q, q ≠ 224 → m1 q = mi q := ⟨_, rfl, fun q hq => zp_r _ _ _ hq⟩
  have hY := hY.th (k := 0) (v := nI 0) (Or.inl rfl)
  rw [← em] at hY ⊢
  obtain ⟨hd, hlate, htr, ht, hs, him, hl, hw⟩ := id hY
  refine e_iload_n 6 dX8_count_5 rfl rfl ?_
  refine e_if_neN 16 9 dX8_count_6 (by decide) rfl (by decide) (fun h6 => ?_) (fun h6 => ?_)
  · refine e_iload_n 17 dX8_count_16 rfl rfl ?_
    refine e_iconst 18 hic_1 dX8_count_17 rfl ?_
    refine e_icmp_neN 28 21 dX8_count_18 (by decide) rfl (by decide) (by decide) (fun h18 => ?_) (fun h18 => ?_)
    · refine e_iload_n 29 dX8_count_28 rfl rfl ?_
      refine e_iconst 30 hic_2 dX8_count_29 rfl ?_
      refine e_icmp_neN 42 33 dX8_count_30 (by decide) rfl (by decide) (by decide) (fun h30 => ?_) (fun h30 => ?_)
      · refine e_iload_n 43 dX8_count_42 rfl rfl ?_
        refine e_iconst 44 hic_3 dX8_count_43 rfl ?_
        refine e_icmp_neN 56 47 dX8_count_44 (by decide) rfl (by decide) (by decide) (fun h44 => ?_) (fun h44 => ?_)
        · refine e_iload_n 57 dX8_count_56 rfl rfl ?_
          refine e_iconst 58 hic_4 dX8_count_57 rfl ?_
          refine e_icmp_neN 68 61 dX8_count_58 (by decide) rfl (by decide) (by decide) (fun h58 => ?_) (fun h58 => ?_)
          · exact absurd h58 (by decide)
          · refine e_aload_n 62 dX8_count_61 rfl rfl ?_
            refine e_geti 65 dX8_count_62 lf_X8_147 rfl rfl rfl (by decide) hw.1 ?_
            refine e_goto 81 dX8_count_65 (by decide) ?_
            refine e_ireturn .int dX8_count_81 rfl rfl ?_
            exact ⟨_, rfl, (iteP (show vN (nI 4) 6 from (vN_nI (by decide)).mpr (by decide))).symm, hY, fun q hq => hfr q (by omega), rfl, rfl⟩
        · exact absurd h44 (by decide)
      · exact absurd h30 (by decide)
    · exact absurd h18 (by decide)
  · exact absurd h6 (by decide)

set_option maxHeartbeats 4000000 in
set_option maxRecDepth 100000 in
theorem k_X8_count_5 (G : zG) {D E : Nat} {Λ : zLd} {late : Nat} {tr : Int64} {t : zTx} {m : zMo} {im : Nat → Nat × zMo} {l : zLt} {r : zWr} {mi : zFi} {ml : zFl} {mr : zFr} (hr : zRf mr D E) (hY : zY mi ml Λ late tr t m im l r) (hF : zWf Λ late t m im l r)  : zMet G 0 yX8_count cX8_count 2 (some .int) [.ref 224, .int (nI 5)] 238 mi ml mr 238 (zPi fun x u b c => x = sCount Λ t m r (nI 5) ∧ zY u b Λ late tr t m im l r ∧ (∀ q, q < 224 → u q = mi q) ∧ b = ml ∧ c = mr) := by
  obtain ⟨hW, hla30, htw, hmw, himw, hlw, hrw⟩ := id hF
  have hP3 := hW.1.1
  have hW5 := hW.1.2.1
  have hy99 := hmw.1
  refine z_intro ([.ref 224, .int (nI 5)]) (by decide) rfl (Nat.le_of_ble_eq_true rfl) ?_
  refine e_aload_n 1 dX8_count_0 rfl rfl ?_
  refine e_iconst 2 hic_0 dX8_count_1 rfl ?_
  refine e_puti 5 dX8_count_2 lf_X8_56 rfl rfl rfl rfl rfl (by decide) ?_
  obtain ⟨m1, em, hfr⟩ : ∃ m1, m1 = zp mi 224 0 (nI 0) ∧ ∀ q, q ≠ 224 → m1 q = mi q := ⟨_, rfl, fun q hq => zp_r _ _ _ hq⟩
  have hY := hY.th (k := 0) (v := nI 0) (Or.inl rfl)
  rw [← em] at hY ⊢
  obtain ⟨hd, hlate, htr, ht, hs, him, hl, hw⟩ := id hY
  refine e_iload_n 6 dX8_count_5 rfl rfl ?_
  refine e_if_neN 16 9 dX8_count_6 (by decide) rfl (by decide) (fun h6 => ?_) (fun h6 => ?_)
  · refine e_iload_n 17 dX8_count_16 rfl rfl ?_
    refine e_iconst 18 hic_1 dX8_count_17 rfl ?_
    refine e_icmp_neN 28 21 dX8_count_18 (by decide) rfl (by decide) (by decide) (fun h18 => ?_) (fun h18 => ?_)
    · refine e_iload_n 29 dX8_count_28 rfl rfl ?_
      refine e_iconst 30 hic_2 dX8_count_29 rfl ?_
      refine e_icmp_neN 42 33 dX8_count_30 (by decide) rfl (by decide) (by decide) (fun h30 => ?_) (fun h30 => ?_)
      · refine e_iload_n 43 dX8_count_42 rfl rfl ?_
        refine e_iconst 44 hic_3 dX8_count_43 rfl ?_
        refine e_icmp_neN 56 47 dX8_count_44 (by decide) rfl (by decide) (by decide) (fun h44 => ?_) (fun h44 => ?_)
        · refine e_iload_n 57 dX8_count_56 rfl rfl ?_
          refine e_iconst 58 hic_4 dX8_count_57 rfl ?_
          refine e_icmp_neN 68 61 dX8_count_58 (by decide) rfl (by decide) (by decide) (fun h58 => ?_) (fun h58 => ?_)
          · refine e_iload_n 69 dX8_count_68 rfl rfl ?_
            refine e_iconst 70 hic_5 dX8_count_69 rfl ?_
            refine e_icmp_neN 80 73 dX8_count_70 (by decide) rfl (by decide) (by decide) (fun h70 => ?_) (fun h70 => ?_)
            · exact absurd h70 (by decide)
            · refine e_aload_n 74 dX8_count_73 rfl rfl ?_
              refine e_geti 77 dX8_count_74 lf_X8_64 rfl rfl rfl (by decide) ht.1 ?_
              refine e_goto 81 dX8_count_77 (by decide) ?_
              refine e_ireturn .int dX8_count_81 rfl rfl ?_
              exact ⟨_, rfl, (iteP (show vN (nI 5) 6 from (vN_nI (by decide)).mpr (by decide))).symm, hY, fun q hq => hfr q (by omega), rfl, rfl⟩
          · exact absurd h58 (by decide)
        · exact absurd h44 (by decide)
      · exact absurd h30 (by decide)
    · exact absurd h18 (by decide)
  · exact absurd h6 (by decide)

set_option maxHeartbeats 4000000 in
set_option maxRecDepth 100000 in
theorem k_X8_count_d (G : zG) {D E : Nat} {Λ : zLd} {late : Nat} {tr : Int64} {t : zTx} {m : zMo} {im : Nat → Nat × zMo} {l : zLt} {r : zWr} {mi : zFi} {ml : zFl} {mr : zFr} (hr : zRf mr D E) (hY : zY mi ml Λ late tr t m im l r) (hF : zWf Λ late t m im l r) {what : Int32} (hbad : ¬ vN what 6) : zMet G 0 yX8_count cX8_count 2 (some .int) [.ref 224, .int what] 238 mi ml mr 238 (zPi fun x u b c => x = sCount Λ t m r what ∧ zY u b Λ late tr t m im l r ∧ (∀ q, q < 224 → u q = mi q) ∧ b = ml ∧ c = mr) := by
  obtain ⟨hW, hla30, htw, hmw, himw, hlw, hrw⟩ := id hF
  have hP3 := hW.1.1
  have hW5 := hW.1.2.1
  have hy99 := hmw.1
  refine z_intro ([.ref 224, .int what]) (by decide) rfl (Nat.le_of_ble_eq_true rfl) ?_
  refine e_aload_n 1 dX8_count_0 rfl rfl ?_
  refine e_iconst 2 hic_0 dX8_count_1 rfl ?_
  refine e_puti 5 dX8_count_2 lf_X8_56 rfl rfl rfl rfl rfl (by decide) ?_
  obtain ⟨m1, em, hfr⟩ : ∃ m1, m1 = zp mi 224 0 (nI 0) ∧ ∀ q, q ≠ 224 → m1 q = mi q := ⟨_, rfl, fun q hq => zp_r _ _ _ hq⟩
  have hY := hY.th (k := 0) (v := nI 0) (Or.inl rfl)
  rw [← em] at hY ⊢
  obtain ⟨hd, hlate, htr, ht, hs, him, hl, hw⟩ := id hY
  refine e_iload_n 6 dX8_count_5 rfl rfl ?_
  refine e_if_ne 16 9 dX8_count_6 (by decide) rfl (fun h6 => ?_) (fun h6 => ?_)
  · refine e_iload_n 17 dX8_count_16 rfl rfl ?_
    refine e_iconst 18 hic_1 dX8_count_17 rfl ?_
    refine e_icmp_ne 28 21 dX8_count_18 (by decide) rfl (fun h18 => ?_) (fun h18 => ?_)
    · refine e_iload_n 29 dX8_count_28 rfl rfl ?_
      refine e_iconst 30 hic_2 dX8_count_29 rfl ?_
      refine e_icmp_ne 42 33 dX8_count_30 (by decide) rfl (fun h30 => ?_) (fun h30 => ?_)
      · refine e_iload_n 43 dX8_count_42 rfl rfl ?_
        refine e_iconst 44 hic_3 dX8_count_43 rfl ?_
        refine e_icmp_ne 56 47 dX8_count_44 (by decide) rfl (fun h44 => ?_) (fun h44 => ?_)
        · refine e_iload_n 57 dX8_count_56 rfl rfl ?_
          refine e_iconst 58 hic_4 dX8_count_57 rfl ?_
          refine e_icmp_ne 68 61 dX8_count_58 (by decide) rfl (fun h58 => ?_) (fun h58 => ?_)
          · refine e_iload_n 69 dX8_count_68 rfl rfl ?_
            refine e_iconst 70 hic_5 dX8_count_69 rfl ?_
            refine e_icmp_ne 80 73 dX8_count_70 (by decide) rfl (fun h70 => ?_) (fun h70 => ?_)
            · refine e_iconst 81 hic_m1 dX8_count_80 rfl ?_
              refine e_ireturn .int dX8_count_81 rfl rfl ?_
              exact ⟨_, rfl, (iteN hbad).symm, hY, fun q hq => hfr q (by omega), rfl, rfl⟩
            · exact absurd (show vN what 6 from by rw [h70]; exact (vN_nI (by decide)).mpr (by decide)) hbad
          · exact absurd (show vN what 6 from by rw [h58]; exact (vN_nI (by decide)).mpr (by decide)) hbad
        · exact absurd (show vN what 6 from by rw [h44]; exact (vN_nI (by decide)).mpr (by decide)) hbad
      · exact absurd (show vN what 6 from by rw [h30]; exact (vN_nI (by decide)).mpr (by decide)) hbad
    · exact absurd (show vN what 6 from by rw [h18]; exact (vN_nI (by decide)).mpr (by decide)) hbad
  · exact absurd (show vN what 6 from by rw [show what = nI 0 from h6]; exact (vN_nI (by decide)).mpr (by decide)) hbad

set_option maxHeartbeats 4000000 in
set_option maxRecDepth 100000 in
theorem k_X8_count (G : zG) {D E : Nat} {Λ : zLd} {late : Nat} {tr : Int64} {t : zTx} {m : zMo} {im : Nat → Nat × zMo} {l : zLt} {r : zWr} {mi : zFi} {ml : zFl} {mr : zFr} (hr : zRf mr D E) (hY : zY mi ml Λ late tr t m im l r) (hF : zWf Λ late t m im l r) {what : Int32} : zMet G 0 yX8_count cX8_count 2 (some .int) [.ref 224, .int what] 238 mi ml mr 238 (zPi fun x u b c => x = sCount Λ t m r what ∧ zY u b Λ late tr t m im l r ∧ (∀ q, q < 224 → u q = mi q) ∧ b = ml ∧ c = mr) := by
  by_cases h : vN what 6
  · obtain ⟨e, hk⟩ := h.nat
    rw [e]
    have h5 : zK what = 0 ∨ zK what = 1 ∨ zK what = 2 ∨ zK what = 3 ∨ zK what = 4 ∨ zK what = 5 := by omega
    rcases h5 with q | q | q | q | q | q
    · rw [q]; exact k_X8_count_0 G hr hY hF
    · rw [q]; exact k_X8_count_1 G hr hY hF
    · rw [q]; exact k_X8_count_2 G hr hY hF
    · rw [q]; exact k_X8_count_3 G hr hY hF
    · rw [q]; exact k_X8_count_4 G hr hY hF
    · rw [q]; exact k_X8_count_5 G hr hY hF
  · exact k_X8_count_d G hr hY hF h

