set_option maxHeartbeats 4000000 in
set_option maxRecDepth 100000 in
theorem k_X8_life (G : zG) {D E : Nat} {Λ : zLd} {late : Nat} {tr : Int64} {t : zTx} {m : zMo} {im : Nat → Nat × zMo} {l : zLt} {r : zWr} {mi : zFi} {ml : zFl} {mr : zFr} (hr : zRf mr D E) (hY : zY mi ml Λ late tr t m im l r) (hF : zWf Λ late t m im l r) {w what : Int32} : zMet G 2 yX8_life cX8_life 4 (some .int) [.ref 224, .int w, .int what] 238 mi ml mr 238 (zPi fun x u b c => x = sLife Λ m w what ∧ zY u b Λ late tr t m im l r ∧ (∀ q, q < 224 → u q = mi q) ∧ b = ml ∧ c = mr) := by
  obtain ⟨hW, hla30, htw, hmw, himw, hlw, hrw⟩ := id hF
  have hP3 := hW.1.1
  have hW5 := hW.1.2.1
  have hy99 := hmw.1
  refine z_intro ([.ref 224, .int w, .int what, zx]) (by decide) rfl (Nat.le_of_ble_eq_true rfl) ?_
  refine e_aload_n 1 dX8_life_0 rfl rfl ?_
  refine e_iconst 2 hic_0 dX8_life_1 rfl ?_
  refine e_puti 5 dX8_life_2 lf_X8_56 rfl rfl rfl rfl rfl (by decide) ?_
  obtain ⟨m1, em, hfr⟩ : ∃ m1, m1 = zp mi 224 0 (nI 0) ∧ ∀ q, q ≠ 224 → m1 q = mi q := ⟨_, rfl, fun q hq => zp_r _ _ _ hq⟩
  have hY := hY.th (k := 0) (v := nI 0) (Or.inl rfl)
  rw [← em] at hY ⊢
  obtain ⟨hd, hlate, htr, ht, hs, him, hl, hw⟩ := id hY
  refine e_aload_n 6 dX8_life_5 rfl rfl ?_
  refine e_iload_n 7 dX8_life_6 rfl rfl ?_
  refine c_Vqi 10 (ci := 8) dX8_life_7 (k_X8_isWord G hr hd hW) lm_X8_156 zi_yX8_isWord zs_yX8_isWord rfl rfl (by decide) rfl rfl rfl (Nat.le_of_ble_eq_true rfl) (Nat.le_of_ble_eq_true rfl) (Nat.le_of_ble_eq_true rfl) (by exact Nat.le_refl _) (by exact Nat.le_refl _) ?_
  refine e_if_eq 22 13 dX8_life_10 (by decide) rfl (fun h10 => ?_) (fun h10 => ?_)
  · have h10 := zB_0 h10
    refine e_iconst 23 hic_m1 dX8_life_22 rfl ?_
    refine e_ireturn .int dX8_life_23 rfl rfl ?_
    exact ⟨_, rfl, (iteN (fun q => by first | exact h10 q.1 | exact h19 q.2)).symm, hY, fun q hq => hfr q (by omega), rfl, rfl⟩
  · have h10 := zB_1 h10
    obtain ⟨ew, hw9⟩ := h10.nat
    refine e_iload_n 14 dX8_life_13 rfl rfl ?_
    refine e_iconst 15 hic_0 dX8_life_14 rfl ?_
    refine e_iconst 16 hic_3 dX8_life_15 rfl ?_
    refine c_Sqi 19 dX8_life_16 (k_X8_inN G (by decide) (by decide)) lm_X8_60 zt_yX8_in rfl rfl rfl (Nat.le_of_ble_eq_true rfl) (Nat.le_of_ble_eq_true rfl) (Nat.le_of_ble_eq_true rfl) (by exact Nat.le_refl _) (by exact Nat.le_refl _) ?_
    refine e_if_ne 24 22 dX8_life_19 (by decide) rfl (fun h19 => ?_) (fun h19 => ?_)
    · have h19 := zB_1 h19
      obtain ⟨ewhat, hh9⟩ := h19.nat
      have eA : sLife Λ m w what = (if Λ 3 (zK w) ≤ m.1 then (if zK what = 0 then nI (zPeakV Λ m.1 (m.2.2.2 (zK w))) else if zK what = 1 then nI (zPeakY (zYm (Λ 0 0) (m.2.2.2 (zK w)).2.1) m.1) else if zK what = 2 then zOptI (zOver (zYm (Λ 0 0) (m.2.2.2 (zK w)).2.1) m.1) else nI (zKept (Λ 0 0) (m.2.2.2 (zK w)).1)) else -2) := iteP ⟨h10, h19⟩
      rw [eA]
      clear eA
      clear h10 h19
      generalize zK w = w9 at ew hw9 ⊢
      generalize zK what = k9 at ewhat hh9 ⊢
      subst ew ewhat
      refine e_aload_n 25 dX8_life_24 rfl rfl ?_
      refine e_iload_n 26 dX8_life_25 rfl rfl ?_
      refine c_Vqi 29 (ci := 8) dX8_life_26 (k_X8_isCoined G hr hd hW hw9 hs.1 hy99) lm_X8_159 zi_yX8_isCoined zs_yX8_isCoined rfl rfl (by decide) rfl rfl rfl (Nat.le_of_ble_eq_true rfl) (Nat.le_of_ble_eq_true rfl) (Nat.le_of_ble_eq_true rfl) (by exact Nat.le_refl _) (by exact Nat.le_refl _) ?_
      refine e_if_ne 35 32 dX8_life_29 (by decide) rfl (fun h29 => ?_) (fun h29 => ?_)
      · have h29 := zB_1 h29
        rw [if_pos h29]
        refine e_aload_n 36 dX8_life_35 rfl rfl ?_
        refine e_iload_n 37 dX8_life_36 rfl rfl ?_
        refine c_Vi 40 (ci := 8) dX8_life_37 (k_X8_peakOf G hr hd hW hs hmw hw9) lm_X8_202 zi_yX8_peakOf zs_yX8_peakOf rfl rfl (by decide) rfl rfl rfl (Nat.le_of_ble_eq_true rfl) (Nat.le_of_ble_eq_true rfl) (Nat.le_of_ble_eq_true rfl) (by exact Nat.le_refl _) (by exact Nat.le_refl _) ?_
        rintro x1 u1 _ _ ⟨rfl, p29, p30, f1, rfl, rfl⟩
        have hY := hY.pk f1
        obtain ⟨hd, hlate, htr, ht, hs, him, hl, hw⟩ := id hY
        have hfr1 : ∀ q, q < 224 → u1 q = mi q := fun q hq => (f1.1 q (by omega)).trans (hfr q (by omega))
        refine e_istore_n 41 dX8_life_40 rfl (by decide) (zst1_3 rfl) ?_
        refine e_iload_n 42 dX8_life_41 rfl rfl ?_
        refine e_if_neN 49 45 dX8_life_42 (by decide) rfl (by omega) (fun h42 => ?_) (fun h42 => ?_)
        · refine e_iload_n 50 dX8_life_49 rfl rfl ?_
          refine e_iconst 51 hic_1 dX8_life_50 rfl ?_
          refine e_icmp_neN 61 54 dX8_life_51 (by decide) rfl (by omega) (by omega) (fun h51 => ?_) (fun h51 => ?_)
          · refine e_iload_n 62 dX8_life_61 rfl rfl ?_
            refine e_iconst 63 hic_2 dX8_life_62 rfl ?_
            refine e_icmp_neN 73 66 dX8_life_63 (by decide) rfl (by omega) (by omega) (fun h63 => ?_) (fun h63 => ?_)
            · refine e_aload_n 74 dX8_life_73 rfl rfl ?_
              refine e_iload_n 75 dX8_life_74 rfl rfl ?_
              refine c_Vqi 78 (ci := 8) dX8_life_75 (k_X8_keptAge G hr hd hW (hs.2.2.2 w9 hw9).1 (hmw.2.2 w9 hw9).1.1 hw9) lm_X8_205 zi_yX8_keptAge zs_yX8_keptAge rfl rfl (by decide) rfl rfl rfl (Nat.le_of_ble_eq_true rfl) (Nat.le_of_ble_eq_true rfl) (Nat.le_of_ble_eq_true rfl) (by exact Nat.le_refl _) (by exact Nat.le_refl _) ?_
              refine e_ireturn .int dX8_life_78 rfl rfl ?_
              refine ⟨_, rfl, ?_, hY, hfr1, rfl, rfl⟩
              first | rw [if_pos (show k9 = 0 by omega)] | rw [if_neg (show ¬ k9 = 0 by omega), if_pos (show k9 = 1 by omega)] | rw [if_neg (show ¬ k9 = 0 by omega), if_neg (show ¬ k9 = 1 by omega), if_pos (show k9 = 2 by omega)] | rw [if_neg (show ¬ k9 = 0 by omega), if_neg (show ¬ k9 = 1 by omega), if_neg (show ¬ k9 = 2 by omega)]
            · refine e_aload_n 67 dX8_life_66 rfl rfl ?_
              refine e_geti 70 dX8_life_67 lf_X8_196 rfl rfl rfl (by decide) p30 ?_
              refine e_goto 78 dX8_life_70 (by decide) ?_
              refine e_ireturn .int dX8_life_78 rfl rfl ?_
              refine ⟨_, rfl, ?_, hY, hfr1, rfl, rfl⟩
              first | rw [if_pos (show k9 = 0 by omega)] | rw [if_neg (show ¬ k9 = 0 by omega), if_pos (show k9 = 1 by omega)] | rw [if_neg (show ¬ k9 = 0 by omega), if_neg (show ¬ k9 = 1 by omega), if_pos (show k9 = 2 by omega)] | rw [if_neg (show ¬ k9 = 0 by omega), if_neg (show ¬ k9 = 1 by omega), if_neg (show ¬ k9 = 2 by omega)]
          · refine e_aload_n 55 dX8_life_54 rfl rfl ?_
            refine e_geti 58 dX8_life_55 lf_X8_193 rfl rfl rfl (by decide) p29 ?_
            refine e_goto 78 dX8_life_58 (by decide) ?_
            refine e_ireturn .int dX8_life_78 rfl rfl ?_
            refine ⟨_, rfl, ?_, hY, hfr1, rfl, rfl⟩
            first | rw [if_pos (show k9 = 0 by omega)] | rw [if_neg (show ¬ k9 = 0 by omega), if_pos (show k9 = 1 by omega)] | rw [if_neg (show ¬ k9 = 0 by omega), if_neg (show ¬ k9 = 1 by omega), if_pos (show k9 = 2 by omega)] | rw [if_neg (show ¬ k9 = 0 by omega), if_neg (show ¬ k9 = 1 by omega), if_neg (show ¬ k9 = 2 by omega)]
        · refine e_iload_n 46 dX8_life_45 rfl rfl ?_
          refine e_goto 78 dX8_life_46 (by decide) ?_
          refine e_ireturn .int dX8_life_78 rfl rfl ?_
          refine ⟨_, rfl, ?_, hY, hfr1, rfl, rfl⟩
          first | rw [if_pos (show k9 = 0 by omega)] | rw [if_neg (show ¬ k9 = 0 by omega), if_pos (show k9 = 1 by omega)] | rw [if_neg (show ¬ k9 = 0 by omega), if_neg (show ¬ k9 = 1 by omega), if_pos (show k9 = 2 by omega)] | rw [if_neg (show ¬ k9 = 0 by omega), if_neg (show ¬ k9 = 1 by omega), if_neg (show ¬ k9 = 2 by omega)]
      · have h29 := zB_0 h29
        rw [if_neg h29]
        refine e_bipush 34 hbi_m2 dX8_life_32 rfl ?_
        refine e_ireturn .int dX8_life_34 rfl rfl ?_
        exact ⟨_, rfl, rfl, hY, fun q hq => hfr q (by omega), rfl, rfl⟩
    · have h19 := zB_0 h19
      refine e_iconst 23 hic_m1 dX8_life_22 rfl ?_
      refine e_ireturn .int dX8_life_23 rfl rfl ?_
      exact ⟨_, rfl, (iteN (fun q => by first | exact h10 q.1 | exact h19 q.2)).symm, hY, fun q hq => hfr q (by omega), rfl, rfl⟩

theorem zSub_0 (x : Int32) : x - nI 0 = x := by
  rw [show nI 0 = (0 : Int32) from rfl]
  exact Int32.sub_zero x
set_option maxHeartbeats 4000000 in
set_option maxRecDepth 100000 in
theorem l_X8_printed (G : zG) (d : Nat) (Q : zQ) {D E : Nat} {Λ : zLd} {late : Nat} {m : zMo} {mi : zFi} {ml : zFl} {mr : zFr} (hr : zRf mr D E) (hd : zYd mi Λ) (hW : zLandW Λ) (hs : zYs (mi 225) Λ m) (hm : zMoW Λ m) (hla : mi 230 4 = nI late) {w what : Nat} (hw : w < Λ 0 1) (hwh : what ≤ 1) : ∀ (k y : Nat), y + k = m.1 + 1 → ((∀ z, zFst (fun y => decide (100 ≤ (m.2.2.2 w).2.2 y)) k y = some z → Q (some (.int (if what = 0 then nI (z + late) else nI (z + late) - nI (Λ 3 w)))) mi ml mr) ∧ (zFst (fun y => decide (100 ≤ (m.2.2.2 w).2.2 y)) k y = none → Q (some (.int (-9))) mi ml mr)) → zE G (zRm d 238 238) (zQm G 238 238 Q) yX8_printed.cls yX8_printed.name cX8_printed 4 (some .int) 238 26 [.ref 224, .int (nI w), .int (nI what), .int (nI y)] [] 238 mi ml mr := by
  intro k
  induction k with
  | zero =>
    intro y h hQ
    have hP3 := hW.1.1
    have hW5 := hW.1.2.1
    have hy99 := hm.1
    refine e_iload_n 27 dX8_printed_26 rfl rfl ?_
    refine e_aload_n 28 dX8_printed_27 rfl rfl ?_
    refine e_getr 31 dX8_printed_28 lf_X8_7 rfl rfl rfl (by decide) hr.ys ?_
    refine e_iconst 32 hic_0 dX8_printed_31 rfl ?_
    refine e_iald (v := nI m.1) 33 dX8_printed_32 rfl rfl (by decide) rfl (by show 0 < 2950; omega) hs.1 ?_
    refine e_icmp_gtN 91 36 dX8_printed_33 (by decide) rfl (by omega) (by omega) (fun h33 => ?_) (fun h33 => ?_)
    · refine e_bipush 93 hbi_m9 dX8_printed_91 rfl ?_
      refine e_ireturn .int dX8_printed_93 rfl rfl ?_
      exact hQ.2 rfl
    · exact absurd h33 (by omega)
  | succ k ih =>
    intro y h hQ
    have hP3 := hW.1.1
    have hW5 := hW.1.2.1
    have hy99 := hm.1
    have e0 : zFst (fun y => decide (100 ≤ (m.2.2.2 w).2.2 y)) (k + 1) y = if decide (100 ≤ (m.2.2.2 w).2.2 y) = true then some y else zFst (fun y => decide (100 ≤ (m.2.2.2 w).2.2 y)) k (y + 1) := rfl
    refine e_iload_n 27 dX8_printed_26 rfl rfl ?_
    refine e_aload_n 28 dX8_printed_27 rfl rfl ?_
    refine e_getr 31 dX8_printed_28 lf_X8_7 rfl rfl rfl (by decide) hr.ys ?_
    refine e_iconst 32 hic_0 dX8_printed_31 rfl ?_
    refine e_iald (v := nI m.1) 33 dX8_printed_32 rfl rfl (by decide) rfl (by show 0 < 2950; omega) hs.1 ?_
    refine e_icmp_gtN 91 36 dX8_printed_33 (by decide) rfl (by omega) (by omega) (fun h33 => ?_) (fun h33 => ?_)
    · exact absurd h33 (by omega)
    · refine e_aload_n 37 dX8_printed_36 rfl rfl ?_
      refine e_getr 40 dX8_printed_37 lf_X8_7 rfl rfl rfl (by decide) hr.ys ?_
      refine e_sipush 43 hsi_2450 dX8_printed_40 rfl ?_
      refine e_bipush 45 hbi_100 dX8_printed_43 rfl ?_
      refine e_iload_n 46 dX8_printed_45 rfl rfl ?_
      first | refine e_imulN 47 dX8_printed_46 rfl ?_ | refine e_imul 47 dX8_printed_46 rfl ?_
      first | refine e_iaddN 48 dX8_printed_47 rfl ?_ | refine e_iadd 48 dX8_printed_47 rfl ?_
      refine e_iload_n 49 dX8_printed_48 rfl rfl ?_
      first | refine e_iaddN 50 dX8_printed_49 rfl ?_ | refine e_iadd 50 dX8_printed_49 rfl ?_
      refine e_iald 51 dX8_printed_50 rfl rfl (by decide) rfl (by show zPa w y < 2950; unfold zPa; omega) ((hs.2.2.2 w hw).2.2 y (by omega)) ?_
      refine e_bipush 53 hbi_100 dX8_printed_51 rfl ?_
      refine e_icmp_ltN 85 56 dX8_printed_53 (by decide) rfl (by have := (hm.2.2 w hw).1.2.2 y (by omega); omega) (by omega) (fun h53 => ?_) (fun h53 => ?_)
      · refine e_iinc 88 dX8_printed_85 rfl (by decide) rfl (z_inc hii_1) (zst1_3 rfl) ?_
        refine e_goto 26 dX8_printed_88 (by decide) ?_
        have e1 := e0.trans (if_neg (show ¬ decide (100 ≤ (m.2.2.2 w).2.2 y) = true by simp only [decide_eq_true_eq]; omega))
        exact ih (y + 1) (by omega) ⟨fun z hz => hQ.1 z (e1.trans hz), fun hn => hQ.2 (e1.trans hn)⟩
      · have hz : zFst (fun y => decide (100 ≤ (m.2.2.2 w).2.2 y)) (k + 1) y = some y := e0.trans (if_pos (by simp only [decide_eq_true_eq]; omega))
        have hq := hQ.1 y hz
        refine e_iload_n 57 dX8_printed_56 rfl rfl ?_
        refine e_aload_n 58 dX8_printed_57 rfl rfl ?_
        refine e_getr 61 dX8_printed_58 lf_X8_26 rfl rfl rfl (by decide) hr.yl ?_
        refine e_iconst 62 hic_4 dX8_printed_61 rfl ?_
        refine e_iald 63 dX8_printed_62 rfl rfl (by decide) rfl (by show 4 < 10; decide) hla ?_
        first | refine e_iaddN 64 dX8_printed_63 rfl ?_ | refine e_iadd 64 dX8_printed_63 rfl ?_
        refine e_iload_n 65 dX8_printed_64 rfl rfl ?_
        refine e_iconst 66 hic_1 dX8_printed_65 rfl ?_
        refine e_icmp_neN 82 69 dX8_printed_66 (by decide) rfl (by omega) (by omega) (fun h66 => ?_) (fun h66 => ?_)
        · refine e_iconst 83 hic_0 dX8_printed_82 rfl ?_
          refine e_isub 84 dX8_printed_83 rfl ?_
          refine e_ireturn .int dX8_printed_84 rfl rfl ?_
          first | (rw [if_neg (show ¬ what = 0 by omega)] at hq; exact hq) | (rw [if_pos (show what = 0 by omega)] at hq; rw [zSub_0]; exact hq)
        · refine e_aload_n 70 dX8_printed_69 rfl rfl ?_
          refine e_getr 73 dX8_printed_70 lf_X8_32 rfl rfl rfl (by decide) hr.yw ?_
          refine e_iconst 74 hic_4 dX8_printed_73 rfl ?_
          refine e_iload_n 75 dX8_printed_74 rfl rfl ?_
          first | refine e_imulN 76 dX8_printed_75 rfl ?_ | refine e_imul 76 dX8_printed_75 rfl ?_
          refine e_iconst 77 hic_1 dX8_printed_76 rfl ?_
          first | refine e_iaddN 78 dX8_printed_77 rfl ?_ | refine e_iadd 78 dX8_printed_77 rfl ?_
          refine e_iald (v := nI (Λ 3 w)) 79 dX8_printed_78 rfl rfl (by decide) rfl (by show _ < 40; omega) (hd.2.2.2 w hw 1 (by decide)) ?_
          refine e_goto 83 dX8_printed_79 (by decide) ?_
          refine e_isub 84 dX8_printed_83 rfl ?_
          refine e_ireturn .int dX8_printed_84 rfl rfl ?_
          first | (rw [if_neg (show ¬ what = 0 by omega)] at hq; exact hq) | (rw [if_pos (show what = 0 by omega)] at hq; rw [zSub_0]; exact hq)
set_option maxHeartbeats 4000000 in
set_option maxRecDepth 100000 in
theorem k_X8_printed (G : zG) {D E : Nat} {Λ : zLd} {late : Nat} {tr : Int64} {t : zTx} {m : zMo} {im : Nat → Nat × zMo} {l : zLt} {r : zWr} {mi : zFi} {ml : zFl} {mr : zFr} (hr : zRf mr D E) (hY : zY mi ml Λ late tr t m im l r) (hF : zWf Λ late t m im l r) {w what : Int32} : zMet G 2 yX8_printed cX8_printed 4 (some .int) [.ref 224, .int w, .int what] 238 mi ml mr 238 (zPi fun x u b c => x = sPrinted Λ late m w what ∧ zY u b Λ late tr t m im l r ∧ (∀ q, q < 224 → u q = mi q) ∧ b = ml ∧ c = mr) := by
  obtain ⟨hW, hla30, htw, hmw, himw, hlw, hrw⟩ := id hF
  have hP3 := hW.1.1
  have hW5 := hW.1.2.1
  have hy99 := hmw.1
  refine z_intro ([.ref 224, .int w, .int what, zx]) (by decide) rfl (Nat.le_of_ble_eq_true rfl) ?_
  refine e_aload_n 1 dX8_printed_0 rfl rfl ?_
  refine e_iconst 2 hic_0 dX8_printed_1 rfl ?_
  refine e_puti 5 dX8_printed_2 lf_X8_56 rfl rfl rfl rfl rfl (by decide) ?_
  obtain ⟨m1, em, hfr⟩ : ∃ m1, m1 = zp mi 224 0 (nI 0) ∧ ∀ q, q ≠ 224 → m1 q = mi q := ⟨_, rfl, fun q hq => zp_r _ _ _ hq⟩
  have hY := hY.th (k := 0) (v := nI 0) (Or.inl rfl)
  rw [← em] at hY ⊢
  obtain ⟨hd, hlate, htr, ht, hs, him, hl, hw⟩ := id hY
  refine e_aload_n 6 dX8_printed_5 rfl rfl ?_
  refine e_iload_n 7 dX8_printed_6 rfl rfl ?_
  refine c_Vqi 10 (ci := 8) dX8_printed_7 (k_X8_isWord G hr hd hW) lm_X8_156 zi_yX8_isWord zs_yX8_isWord rfl rfl (by decide) rfl rfl rfl (Nat.le_of_ble_eq_true rfl) (Nat.le_of_ble_eq_true rfl) (Nat.le_of_ble_eq_true rfl) (by exact Nat.le_refl _) (by exact Nat.le_refl _) ?_
  refine e_if_eq 22 13 dX8_printed_10 (by decide) rfl (fun h10 => ?_) (fun h10 => ?_)
  · have h10 := zB_0 h10
    refine e_iconst 23 hic_m1 dX8_printed_22 rfl ?_
    refine e_ireturn .int dX8_printed_23 rfl rfl ?_
    exact ⟨_, rfl, (ite2_0 (fun q => by first | exact h10 q.1 | exact h19 q.2)).symm, hY, fun q hq => hfr q (by omega), rfl, rfl⟩
  · have h10 := zB_1 h10
    obtain ⟨ew, hw9⟩ := h10.nat
    refine e_iload_n 14 dX8_printed_13 rfl rfl ?_
    refine e_iconst 15 hic_0 dX8_printed_14 rfl ?_
    refine e_iconst 16 hic_1 dX8_printed_15 rfl ?_
    refine c_Sqi 19 dX8_printed_16 (k_X8_inN G (by decide) (by decide)) lm_X8_60 zt_yX8_in rfl rfl rfl (Nat.le_of_ble_eq_true rfl) (Nat.le_of_ble_eq_true rfl) (Nat.le_of_ble_eq_true rfl) (by exact Nat.le_refl _) (by exact Nat.le_refl _) ?_
    refine e_if_ne 24 22 dX8_printed_19 (by decide) rfl (fun h19 => ?_) (fun h19 => ?_)
    · have h19 := zB_1 h19
      obtain ⟨ewhat, hh9⟩ := h19.nat
      have hS : ∀ z, zPrt (m.2.2.2 (zK w)).2.2 m.1 = some z → sPrinted Λ late m w what = if zK what = 0 then nI (z + late) else nI (z + late) - nI (Λ 3 (zK w)) := fun z hz => sPrinted_s h10 h19 hz
      have hN : zPrt (m.2.2.2 (zK w)).2.2 m.1 = none → sPrinted Λ late m w what = -9 := fun hz => sPrinted_n h10 h19 hz
      clear h10 h19
      generalize sPrinted Λ late m w what = ans at hS hN ⊢
      generalize zK w = w9 at ew hw9 hS hN
      generalize zK what = k9 at ewhat hh9 hS
      subst ew ewhat
      refine e_iconst 25 hic_0 dX8_printed_24 rfl ?_
      refine e_istore_n 26 dX8_printed_25 rfl (by decide) (zst1_3 rfl) ?_
      exact l_X8_printed G _ _ hr hd hW hs hmw hlate hw9 hh9.2 (m.1 + 1) 0 (by omega) ⟨fun z hz => ⟨_, rfl, (hS z hz).symm, hY, fun q hq => hfr q (by omega), rfl, rfl⟩, fun hz => ⟨_, rfl, (hN hz).symm, hY, fun q hq => hfr q (by omega), rfl, rfl⟩⟩
    · have h19 := zB_0 h19
      refine e_iconst 23 hic_m1 dX8_printed_22 rfl ?_
      refine e_ireturn .int dX8_printed_23 rfl rfl ?_
      exact ⟨_, rfl, (ite2_0 (fun q => by first | exact h10 q.1 | exact h19 q.2)).symm, hY, fun q hq => hfr q (by omega), rfl, rfl⟩

