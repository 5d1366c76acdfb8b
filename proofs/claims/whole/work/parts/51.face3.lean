theorem sHas_b {Λ : zLd} {m : zMo} {w p who : Int32} (h : ¬ p = -1) (h2 : ¬ vN p (Λ 0 0)) : sHas Λ m w p who = -1 := by
  unfold sHas
  by_cases a : vN w (Λ 0 1)
  · rw [iteP a]
    by_cases b : vR who 0 2
    · rw [iteP b, if_neg h, iteN h2]
    · rw [iteN b]
  · rw [iteN a]
theorem sHas_m {Λ : zLd} {m : zMo} {w p who : Int32} (a : vN w (Λ 0 1)) (b : vR who 0 2) (h : p = -1) : sHas Λ m w p who = nI (zMeanW (Λ 0 0) (zK who) (m.2.2.2 (zK w))) := (iteP a).trans ((iteP b).trans (if_pos h))
theorem sHas_p {Λ : zLd} {m : zMo} {w p who : Int32} (a : vN w (Λ 0 1)) (b : vR who 0 2) (h : ¬ p = -1) (c : vN p (Λ 0 0)) : sHas Λ m w p who = nI (zMeas (zK who) ((m.2.2.2 (zK w)).1 (zK p))) := (iteP a).trans ((iteP b).trans ((if_neg h).trans (iteP c)))
set_option maxHeartbeats 4000000 in
set_option maxRecDepth 100000 in
theorem k_X8_has (G : zG) {D E : Nat} {Λ : zLd} {late : Nat} {tr : Int64} {t : zTx} {m : zMo} {im : Nat → Nat × zMo} {l : zLt} {r : zWr} {mi : zFi} {ml : zFl} {mr : zFr} (hr : zRf mr D E) (hY : zY mi ml Λ late tr t m im l r) (hF : zWf Λ late t m im l r) {w p who : Int32} : zMet G 3 yX8_has cX8_has 4 (some .int) [.ref 224, .int w, .int p, .int who] 238 mi ml mr 238 (zPi fun x u b c => x = sHas Λ m w p who ∧ zY u b Λ late tr t m im l r ∧ (∀ q, q < 224 → u q = mi q) ∧ b = ml ∧ c = mr) := by
  obtain ⟨hW, hla30, htw, hmw, himw, hlw, hrw⟩ := id hF
  have hP3 := hW.1.1
  have hW5 := hW.1.2.1
  have hy99 := hmw.1
  refine z_intro ([.ref 224, .int w, .int p, .int who]) (by decide) rfl (Nat.le_of_ble_eq_true rfl) ?_
  refine e_aload_n 1 dX8_has_0 rfl rfl ?_
  refine e_iconst 2 hic_0 dX8_has_1 rfl ?_
  refine e_puti 5 dX8_has_2 lf_X8_56 rfl rfl rfl rfl rfl (by decide) ?_
  obtain ⟨m1, em, hfr⟩ : ∃ m1, m1 = zp mi 224 0 (nI 0) ∧ ∀ q, q ≠ 224 → m1 q = mi q := ⟨_, rfl, fun q hq => zp_r _ _ _ hq⟩
  have hY := hY.th (k := 0) (v := nI 0) (Or.inl rfl)
  rw [← em] at hY ⊢
  obtain ⟨hd, hlate, htr, ht, hs, him, hl, hw⟩ := id hY
  refine e_aload_n 6 dX8_has_5 rfl rfl ?_
  refine e_iload_n 7 dX8_has_6 rfl rfl ?_
  refine c_Vqi 10 (ci := 8) dX8_has_7 (k_X8_isWord G hr hd hW) lm_X8_156 zi_yX8_isWord zs_yX8_isWord rfl rfl (by decide) rfl rfl rfl (Nat.le_of_ble_eq_true rfl) (Nat.le_of_ble_eq_true rfl) (Nat.le_of_ble_eq_true rfl) (by exact Nat.le_refl _) (by exact Nat.le_refl _) ?_
  refine e_if_eq 42 13 dX8_has_10 (by decide) rfl (fun h10 => ?_) (fun h10 => ?_)
  · have h10 := zB_0 h10
    refine e_iconst 43 hic_m1 dX8_has_42 rfl ?_
    refine e_ireturn .int dX8_has_43 rfl rfl ?_
    exact ⟨_, rfl, by first | exact (sHas_b h15 h23).symm | exact (iteN h10).symm | exact ((iteP h10).trans (iteN h32)).symm, hY, fun q hq => hfr q (by omega), rfl, rfl⟩
  · have h10 := zB_1 h10
    obtain ⟨ew, hw9⟩ := h10.nat
    refine e_iload_n 14 dX8_has_13 rfl rfl ?_
    refine e_iconst 15 hic_m1 dX8_has_14 rfl ?_
    refine e_icmp_eq 26 18 dX8_has_15 (by decide) rfl (fun h15 => ?_) (fun h15 => ?_)
    · refine e_iload_n 27 dX8_has_26 rfl rfl ?_
      refine e_iconst 28 hic_0 dX8_has_27 rfl ?_
      refine e_iconst 29 hic_2 dX8_has_28 rfl ?_
      refine c_Sqi 32 dX8_has_29 (k_X8_inN G (by decide) (by decide)) lm_X8_60 zt_yX8_in rfl rfl rfl (Nat.le_of_ble_eq_true rfl) (Nat.le_of_ble_eq_true rfl) (Nat.le_of_ble_eq_true rfl) (by exact Nat.le_refl _) (by exact Nat.le_refl _) ?_
      refine e_if_eq 42 35 dX8_has_32 (by decide) rfl (fun h32 => ?_) (fun h32 => ?_)
      · have h32 := zB_0 h32
        refine e_iconst 43 hic_m1 dX8_has_42 rfl ?_
        refine e_ireturn .int dX8_has_43 rfl rfl ?_
        exact ⟨_, rfl, by first | exact (sHas_b h15 h23).symm | exact (iteN h10).symm | exact ((iteP h10).trans (iteN h32)).symm, hY, fun q hq => hfr q (by omega), rfl, rfl⟩
      · have h32 := zB_1 h32
        obtain ⟨ewho, hw2⟩ := h32.nat
        refine e_aload_n 36 dX8_has_35 rfl rfl ?_
        refine e_geti 39 dX8_has_36 lf_X8_138 rfl rfl rfl (by decide) hd.1.1 ?_
        refine e_if_neN 44 42 dX8_has_39 (by decide) rfl (by omega) (fun h39 => ?_) (fun h39 => ?_)
        · by_cases hp : p = -1
          · rw [sHas_m h10 h32 hp]
            clear h10 h32
            generalize zK w = w9 at ew hw9 ⊢
            generalize zK who = k9 at ewho hw2 ⊢
            subst ew ewho
            refine e_iload_n 45 dX8_has_44 rfl rfl ?_
            refine e_if_ge 57 48 dX8_has_45 (by decide) rfl (fun h45 => ?_) (fun h45 => ?_)
            · exact absurd h45 (by rw [hp]; decide)
            · refine e_aload_n 49 dX8_has_48 rfl rfl ?_
              refine e_iload_n 50 dX8_has_49 rfl rfl ?_
              refine e_iload_n 51 dX8_has_50 rfl rfl ?_
              refine c_Vqi 54 (ci := 8) dX8_has_51 (k_X8_mean G hr hd hW (hs.2.2.2 w9 hw9).1 (hmw.2.2 w9 hw9).1.1 (by omega) (by omega)) lm_X8_169 zi_yX8_mean zs_yX8_mean rfl rfl (by decide) rfl rfl rfl (Nat.le_of_ble_eq_true rfl) (Nat.le_of_ble_eq_true rfl) (Nat.le_of_ble_eq_true rfl) (by exact Nat.le_refl _) (by exact Nat.le_refl _) ?_
              refine e_goto 64 dX8_has_54 (by decide) ?_
              refine e_ireturn .int dX8_has_64 rfl rfl ?_
              exact ⟨_, rfl, rfl, hY, fun q hq => hfr q (by omega), rfl, rfl⟩
          · have hpn : vN p (Λ 0 0) := by first | exact h23 | exact absurd h15 hp
            rw [sHas_p h10 h32 hp hpn]
            obtain ⟨ep, hp9⟩ := hpn.nat
            clear h10 h32 hpn hp
            try clear h23
            try clear h15
            generalize zK w = w9 at ew hw9 ⊢
            generalize zK who = k9 at ewho hw2 ⊢
            subst ew ewho
            generalize zK p = p9 at ep hp9 ⊢
            subst ep
            refine e_iload_n 45 dX8_has_44 rfl rfl ?_
            refine e_if_ge 57 48 dX8_has_45 (by decide) rfl (fun h45 => ?_) (fun h45 => ?_)
            · refine e_aload_n 58 dX8_has_57 rfl rfl ?_
              refine e_iload_n 59 dX8_has_58 rfl rfl ?_
              refine e_iload_n 60 dX8_has_59 rfl rfl ?_
              refine e_iload_n 61 dX8_has_60 rfl rfl ?_
              refine c_Vqi 64 (ci := 8) dX8_has_61 (k_X8_of G hr ((hs.2.2.2 w9 hw9).1 p9 hp9) ((hmw.2.2 w9 hw9).1.1 p9 hp9) (by omega) (by omega) (by omega)) lm_X8_166 zi_yX8_of zs_yX8_of rfl rfl (by decide) rfl rfl rfl (Nat.le_of_ble_eq_true rfl) (Nat.le_of_ble_eq_true rfl) (Nat.le_of_ble_eq_true rfl) (by exact Nat.le_refl _) (by exact Nat.le_refl _) ?_
              refine e_ireturn .int dX8_has_64 rfl rfl ?_
              exact ⟨_, rfl, rfl, hY, fun q hq => hfr q (by omega), rfl, rfl⟩
            · exact absurd (by rw [Int32.le_iff_toInt_le, nI_toInt (by omega)]; show (0 : Int) ≤ _; omega) h45
        · exact absurd h39 (by have := (hW.2.2 _ hw9).2.2.1; omega)
    · refine e_aload_n 19 dX8_has_18 rfl rfl ?_
      refine e_iload_n 20 dX8_has_19 rfl rfl ?_
      refine c_Vqi 23 (ci := 8) dX8_has_20 (k_X8_isPlace G hr hd hW) lm_X8_153 zi_yX8_isPlace zs_yX8_isPlace rfl rfl (by decide) rfl rfl rfl (Nat.le_of_ble_eq_true rfl) (Nat.le_of_ble_eq_true rfl) (Nat.le_of_ble_eq_true rfl) (by exact Nat.le_refl _) (by exact Nat.le_refl _) ?_
      refine e_if_eq 42 26 dX8_has_23 (by decide) rfl (fun h23 => ?_) (fun h23 => ?_)
      · have h23 := zB_0 h23
        refine e_iconst 43 hic_m1 dX8_has_42 rfl ?_
        refine e_ireturn .int dX8_has_43 rfl rfl ?_
        exact ⟨_, rfl, by first | exact (sHas_b h15 h23).symm | exact (iteN h10).symm | exact ((iteP h10).trans (iteN h32)).symm, hY, fun q hq => hfr q (by omega), rfl, rfl⟩
      · have h23 := zB_1 h23
        refine e_iload_n 27 dX8_has_26 rfl rfl ?_
        refine e_iconst 28 hic_0 dX8_has_27 rfl ?_
        refine e_iconst 29 hic_2 dX8_has_28 rfl ?_
        refine c_Sqi 32 dX8_has_29 (k_X8_inN G (by decide) (by decide)) lm_X8_60 zt_yX8_in rfl rfl rfl (Nat.le_of_ble_eq_true rfl) (Nat.le_of_ble_eq_true rfl) (Nat.le_of_ble_eq_true rfl) (by exact Nat.le_refl _) (by exact Nat.le_refl _) ?_
        refine e_if_eq 42 35 dX8_has_32 (by decide) rfl (fun h32 => ?_) (fun h32 => ?_)
        · have h32 := zB_0 h32
          refine e_iconst 43 hic_m1 dX8_has_42 rfl ?_
          refine e_ireturn .int dX8_has_43 rfl rfl ?_
          exact ⟨_, rfl, by first | exact (sHas_b h15 h23).symm | exact (iteN h10).symm | exact ((iteP h10).trans (iteN h32)).symm, hY, fun q hq => hfr q (by omega), rfl, rfl⟩
        · have h32 := zB_1 h32
          obtain ⟨ewho, hw2⟩ := h32.nat
          refine e_aload_n 36 dX8_has_35 rfl rfl ?_
          refine e_geti 39 dX8_has_36 lf_X8_138 rfl rfl rfl (by decide) hd.1.1 ?_
          refine e_if_neN 44 42 dX8_has_39 (by decide) rfl (by omega) (fun h39 => ?_) (fun h39 => ?_)
          · by_cases hp : p = -1
            · rw [sHas_m h10 h32 hp]
              clear h10 h32
              generalize zK w = w9 at ew hw9 ⊢
              generalize zK who = k9 at ewho hw2 ⊢
              subst ew ewho
              refine e_iload_n 45 dX8_has_44 rfl rfl ?_
              refine e_if_ge 57 48 dX8_has_45 (by decide) rfl (fun h45 => ?_) (fun h45 => ?_)
              · exact absurd h45 (by rw [hp]; decide)
              · refine e_aload_n 49 dX8_has_48 rfl rfl ?_
                refine e_iload_n 50 dX8_has_49 rfl rfl ?_
                refine e_iload_n 51 dX8_has_50 rfl rfl ?_
                refine c_Vqi 54 (ci := 8) dX8_has_51 (k_X8_mean G hr hd hW (hs.2.2.2 w9 hw9).1 (hmw.2.2 w9 hw9).1.1 (by omega) (by omega)) lm_X8_169 zi_yX8_mean zs_yX8_mean rfl rfl (by decide) rfl rfl rfl (Nat.le_of_ble_eq_true rfl) (Nat.le_of_ble_eq_true rfl) (Nat.le_of_ble_eq_true rfl) (by exact Nat.le_refl _) (by exact Nat.le_refl _) ?_
                refine e_goto 64 dX8_has_54 (by decide) ?_
                refine e_ireturn .int dX8_has_64 rfl rfl ?_
                exact ⟨_, rfl, rfl, hY, fun q hq => hfr q (by omega), rfl, rfl⟩
            · have hpn : vN p (Λ 0 0) := by first | exact h23 | exact absurd h15 hp
              rw [sHas_p h10 h32 hp hpn]
              obtain ⟨ep, hp9⟩ := hpn.nat
              clear h10 h32 hpn hp
              try clear h23
              try clear h15
              generalize zK w = w9 at ew hw9 ⊢
              generalize zK who = k9 at ewho hw2 ⊢
              subst ew ewho
              generalize zK p = p9 at ep hp9 ⊢
              subst ep
              refine e_iload_n 45 dX8_has_44 rfl rfl ?_
              refine e_if_ge 57 48 dX8_has_45 (by decide) rfl (fun h45 => ?_) (fun h45 => ?_)
              · refine e_aload_n 58 dX8_has_57 rfl rfl ?_
                refine e_iload_n 59 dX8_has_58 rfl rfl ?_
                refine e_iload_n 60 dX8_has_59 rfl rfl ?_
                refine e_iload_n 61 dX8_has_60 rfl rfl ?_
                refine c_Vqi 64 (ci := 8) dX8_has_61 (k_X8_of G hr ((hs.2.2.2 w9 hw9).1 p9 hp9) ((hmw.2.2 w9 hw9).1.1 p9 hp9) (by omega) (by omega) (by omega)) lm_X8_166 zi_yX8_of zs_yX8_of rfl rfl (by decide) rfl rfl rfl (Nat.le_of_ble_eq_true rfl) (Nat.le_of_ble_eq_true rfl) (Nat.le_of_ble_eq_true rfl) (by exact Nat.le_refl _) (by exact Nat.le_refl _) ?_
                refine e_ireturn .int dX8_has_64 rfl rfl ?_
                exact ⟨_, rfl, rfl, hY, fun q hq => hfr q (by omega), rfl, rfl⟩
              · exact absurd (by rw [Int32.le_iff_toInt_le, nI_toInt (by omega)]; show (0 : Int) ≤ _; omega) h45
          · exact absurd h39 (by have := (hW.2.2 _ hw9).2.2.1; omega)

set_option maxHeartbeats 4000000 in
set_option maxRecDepth 100000 in
theorem k_X8_late (G : zG) {D E : Nat} {Λ : zLd} {late : Nat} {tr : Int64} {t : zTx} {m : zMo} {im : Nat → Nat × zMo} {l : zLt} {r : zWr} {mi : zFi} {ml : zFl} {mr : zFr} (hr : zRf mr D E) (hY : zY mi ml Λ late tr t m im l r) (hF : zWf Λ late t m im l r) {v : Int32} : zMet G 1 yX8_late cX8_late 3 (some .int) [.ref 224, .int v] 238 mi ml mr 238 (zPi fun x u b c => x = (@ite _ (vR v 0 30) (vR_dec _ _ _) (nI late) (-1)) ∧ zY u b Λ (@ite _ (vR v 0 30) (vR_dec _ _ _) (zK v) late) tr t m im l r ∧ (∀ q, q < 224 → u q = mi q) ∧ b = ml ∧ c = mr) := by
  obtain ⟨hW, hla30, htw, hmw, himw, hlw, hrw⟩ := id hF
  have hP3 := hW.1.1
  have hW5 := hW.1.2.1
  have hy99 := hmw.1
  refine z_intro ([.ref 224, .int v, zx]) (by decide) rfl (Nat.le_of_ble_eq_true rfl) ?_
  refine e_aload_n 1 dX8_late_0 rfl rfl ?_
  refine e_iconst 2 hic_0 dX8_late_1 rfl ?_
  refine e_puti 5 dX8_late_2 lf_X8_56 rfl rfl rfl rfl rfl (by decide) ?_
  obtain ⟨m1, em, hfr⟩ : ∃ m1, m1 = zp mi 224 0 (nI 0) ∧ ∀ q, q ≠ 224 → m1 q = mi q := ⟨_, rfl, fun q hq => zp_r _ _ _ hq⟩
  have hY := hY.th (k := 0) (v := nI 0) (Or.inl rfl)
  rw [← em] at hY ⊢
  obtain ⟨hd, hlate, htr, ht, hs, him, hl, hw⟩ := id hY
  refine e_iload_n 6 dX8_late_5 rfl rfl ?_
  refine e_iconst 7 hic_0 dX8_late_6 rfl ?_
  refine e_bipush 9 hbi_30 dX8_late_7 rfl ?_
  refine c_Sqi 12 dX8_late_9 (k_X8_inN G (by decide) (by decide)) lm_X8_60 zt_yX8_in rfl rfl rfl (Nat.le_of_ble_eq_true rfl) (Nat.le_of_ble_eq_true rfl) (Nat.le_of_ble_eq_true rfl) (by exact Nat.le_refl _) (by exact Nat.le_refl _) ?_
  refine e_if_ne 17 15 dX8_late_12 (by decide) rfl (fun h12 => ?_) (fun h12 => ?_)
  · have h12 := zB_1 h12
    obtain ⟨ev, hv9⟩ := h12.nat
    refine e_aload_n 18 dX8_late_17 rfl rfl ?_
    refine e_getr 21 dX8_late_18 lf_X8_26 rfl rfl rfl (by decide) hr.yl ?_
    refine e_iconst 22 hic_4 dX8_late_21 rfl ?_
    refine e_iald (v := nI late) 23 dX8_late_22 rfl rfl (by decide) rfl (by show 4 < 10; decide) hlate ?_
    refine e_istore_n 24 dX8_late_23 rfl (by decide) (zst1_2 rfl) ?_
    refine e_aload_n 25 dX8_late_24 rfl rfl ?_
    refine e_getr 28 dX8_late_25 lf_X8_26 rfl rfl rfl (by decide) hr.yl ?_
    refine e_iconst 29 hic_4 dX8_late_28 rfl ?_
    refine e_iload_n 30 dX8_late_29 rfl rfl ?_
    refine e_iast 31 dX8_late_30 rfl rfl (by decide) rfl (by show 4 < 10; decide) ?_
    refine e_iload_n 32 dX8_late_31 rfl rfl ?_
    refine e_ireturn .int dX8_late_32 rfl rfl ?_
    have e : ∀ q, q ≠ 230 → zp m1 230 4 v q = m1 q := fun q hq => zp_r _ _ _ hq
    refine ⟨_, rfl, (iteP h12).symm, ?_, fun q hq => (e q (by omega)).trans (hfr q (by omega)), rfl, rfl⟩
    rw [show (@ite _ (vR v 0 30) (vR_dec _ _ _) (zK v) late) = zK v from iteP h12]
    refine ⟨⟨?_, fun k hk => by rw [zp_k _ _ (by omega)]; exact hd.2.1 k hk, ?_, ?_⟩, (zp_s _ _ _ _).trans ev, htr, ?_, ?_, ?_, ?_, ?_⟩
    · rw [e 224 (by decide)]; exact hd.1
    · rw [e 231 (by decide)]; exact hd.2.2.1
    · rw [e 232 (by decide)]; exact hd.2.2.2
    · unfold zYt; rw [e 224 (by decide), e 229 (by decide)]; exact ht
    · rw [e 225 (by decide)]; exact hs
    · unfold zYi; rw [e 227 (by decide), e 228 (by decide)]; exact him
    · unfold zYl; rw [e 224 (by decide), e 233 (by decide)]; exact hl
    · unfold zYw; rw [e 224 (by decide), e 234 (by decide)]; exact hw
  · have h12 := zB_0 h12
    refine e_iconst 16 hic_m1 dX8_late_15 rfl ?_
    refine e_ireturn .int dX8_late_16 rfl rfl ?_
    exact ⟨_, rfl, (iteN h12).symm, by rw [show (@ite _ (vR v 0 30) (vR_dec _ _ _) (zK v) late) = late from iteN h12]; exact hY, fun q hq => hfr q (by omega), rfl, rfl⟩

theorem sLaw_at {mi : zFi} {Λ : zLd} {late : Nat} {what : Int32} (hd : zYd mi Λ) (hl : mi 230 4 = nI late) (h : vR what 0 4) : ∀ k, k ≤ 4 → k = zK what → mi 230 k = sLaw Λ late what := fun k hk e => by
  have hN : vN what 5 := ⟨h.1, by have := h.2; omega⟩
  have e1 : sLaw Λ late what = nI (if zK what = 4 then late else Λ 0 (2 + zK what)) := iteP hN
  rw [e1, ← e]
  by_cases z : k = 4
  · rw [if_pos z, z]; exact hl
  · rw [if_neg z]; exact hd.2.1 k (by omega)
set_option maxHeartbeats 4000000 in
set_option maxRecDepth 100000 in
theorem k_X8_law (G : zG) {D E : Nat} {Λ : zLd} {late : Nat} {tr : Int64} {t : zTx} {m : zMo} {im : Nat → Nat × zMo} {l : zLt} {r : zWr} {mi : zFi} {ml : zFl} {mr : zFr} (hr : zRf mr D E) (hY : zY mi ml Λ late tr t m im l r) (hF : zWf Λ late t m im l r) {what : Int32} : zMet G 1 yX8_law cX8_law 2 (some .int) [.ref 224, .int what] 238 mi ml mr 238 (zPi fun x u b c => x = sLaw Λ late what ∧ zY u b Λ late tr t m im l r ∧ (∀ q, q < 224 → u q = mi q) ∧ b = ml ∧ c = mr) := by
  obtain ⟨hW, hla30, htw, hmw, himw, hlw, hrw⟩ := id hF
  have hP3 := hW.1.1
  have hW5 := hW.1.2.1
  have hy99 := hmw.1
  refine z_intro ([.ref 224, .int what]) (by decide) rfl (Nat.le_of_ble_eq_true rfl) ?_
  refine e_aload_n 1 dX8_law_0 rfl rfl ?_
  refine e_iconst 2 hic_0 dX8_law_1 rfl ?_
  refine e_puti 5 dX8_law_2 lf_X8_56 rfl rfl rfl rfl rfl (by decide) ?_
  obtain ⟨m1, em, hfr⟩ : ∃ m1, m1 = zp mi 224 0 (nI 0) ∧ ∀ q, q ≠ 224 → m1 q = mi q := ⟨_, rfl, fun q hq => zp_r _ _ _ hq⟩
  have hY := hY.th (k := 0) (v := nI 0) (Or.inl rfl)
  rw [← em] at hY ⊢
  obtain ⟨hd, hlate, htr, ht, hs, him, hl, hw⟩ := id hY
  refine e_iload_n 6 dX8_law_5 rfl rfl ?_
  refine e_iconst 7 hic_0 dX8_law_6 rfl ?_
  refine e_iconst 8 hic_4 dX8_law_7 rfl ?_
  refine c_Sqi 11 dX8_law_8 (k_X8_inN G (by decide) (by decide)) lm_X8_60 zt_yX8_in rfl rfl rfl (Nat.le_of_ble_eq_true rfl) (Nat.le_of_ble_eq_true rfl) (Nat.le_of_ble_eq_true rfl) (by exact Nat.le_refl _) (by exact Nat.le_refl _) ?_
  refine e_if_eq 23 14 dX8_law_11 (by decide) rfl (fun h11 => ?_) (fun h11 => ?_)
  · have h11 := zB_0 h11
    refine e_iconst 24 hic_m1 dX8_law_23 rfl ?_
    refine e_ireturn .int dX8_law_24 rfl rfl ?_
    exact ⟨_, rfl, by first | rfl | exact (iteN (fun z : vN what 5 => h11 ⟨z.1, by have := z.2; omega⟩)).symm, hY, fun q hq => hfr q (by omega), rfl, rfl⟩
  · have h11 := zB_1 h11
    obtain ⟨ewhat, hk9⟩ := h11.nat
    have hlv := sLaw_at hd hlate h11
    refine e_aload_n 15 dX8_law_14 rfl rfl ?_
    refine e_getr 18 dX8_law_15 lf_X8_26 rfl rfl rfl (by decide) hr.yl ?_
    refine e_iload_n 19 dX8_law_18 rfl rfl ?_
    rw [show (Value.int what) = Value.int (nI (zK what)) from congrArg Value.int ewhat]
    refine e_iald (v := (sLaw Λ late what)) 20 dX8_law_19 rfl rfl (by decide) rfl (by show zK what < 10; omega) (hlv (zK what) (by omega) rfl) ?_
    refine e_goto 24 dX8_law_20 (by decide) ?_
    refine e_ireturn .int dX8_law_24 rfl rfl ?_
    exact ⟨_, rfl, by first | rfl | exact (iteN (fun z : vN what 5 => h11 ⟨z.1, by have := z.2; omega⟩)).symm, hY, fun q hq => hfr q (by omega), rfl, rfl⟩

