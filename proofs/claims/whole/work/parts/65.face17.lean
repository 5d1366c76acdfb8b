theorem zY.tr9 {mi : zFi} {ml b : zFl} {Λ : zLd} {late : Nat} {tr v : Int64} {t : zTx} {m : zMo} {im : Nat → Nat × zMo} {l : zLt} {r : zWr} (h : zY mi ml Λ late tr t m im l r) (hb : b 224 1 = v) : zY mi b Λ late v t m im l r := ⟨h.1, h.2.1, hb, h.2.2.2⟩
/-- of the longs the reference's trace alone is another -/
def zTrY (ml b : zFl) (v : Int64) : Prop := b 224 1 = v ∧ ∀ q, q ≠ 224 → b q = ml q
theorem zTrY.p {ml : zFl} {v : Int64} : zTrY ml (zp ml 224 1 v) v := ⟨zp_s _ _ _ _, fun _ h => zp_r _ _ _ h⟩
theorem vN_vR6 {v : Int32} : vN v 6 ↔ vR v 0 5 := by
  constructor
  · intro h; exact ⟨by have := h.1; omega, by have := h.2; omega⟩
  · intro h; exact ⟨by have := h.1; omega, by have := h.2; omega⟩
set_option maxHeartbeats 4000000 in
set_option maxRecDepth 100000 in
theorem k_X8_rate_0 (G : zG) {D E : Nat} {Λ : zLd} {late : Nat} {tr : Int64} {t : zTx} {m : zMo} {im : Nat → Nat × zMo} {l : zLt} {r : zWr} {mi : zFi} {ml : zFl} {mr : zFr} (hr : zRf mr D E) (hY : zY mi ml Λ late tr t m im l r) (hF : zWf Λ late t m im l r) {w : Int32} : zMet G 3 yX8_rate cX8_rate 6 (some .int) [.ref 224, .int (nI 0), .int w] 238 mi ml mr 238 (zPi fun x u b c => x = sRate Λ m (nI 0) w ∧ zY u b Λ late (sRateTr Λ tr (nI 0) w) t m im l r ∧ (∀ q, q < 224 → u q = mi q) ∧ zTrY ml b (sRateTr Λ tr (nI 0) w) ∧ c = mr) := by
  obtain ⟨hW, hla30, htw, hmw, himw, hlw, hrw⟩ := id hF
  have hP3 := hW.1.1
  have hW5 := hW.1.2.1
  have hy99 := hmw.1
  refine z_intro ([.ref 224, .int (nI 0), .int w, zx, zx, zx]) (by decide) rfl (Nat.le_of_ble_eq_true rfl) ?_
  refine e_aload_n 1 dX8_rate_0 rfl rfl ?_
  refine e_iconst 2 hic_0 dX8_rate_1 rfl ?_
  refine e_puti 5 dX8_rate_2 lf_X8_56 rfl rfl rfl rfl rfl (by decide) ?_
  obtain ⟨m1, em, hfr⟩ : ∃ m1, m1 = zp mi 224 0 (nI 0) ∧ ∀ q, q ≠ 224 → m1 q = mi q := ⟨_, rfl, fun q hq => zp_r _ _ _ hq⟩
  have hY := hY.th (k := 0) (v := nI 0) (Or.inl rfl)
  rw [← em] at hY ⊢
  obtain ⟨hd, hlate, htr, ht, hs, him, hl, hw⟩ := id hY
  refine e_iload_n 6 dX8_rate_5 rfl rfl ?_
  refine e_iconst 7 hic_0 dX8_rate_6 rfl ?_
  refine e_iconst 8 hic_5 dX8_rate_7 rfl ?_
  refine c_Sqi 11 dX8_rate_8 (k_X8_inN G (by decide) (by decide)) lm_X8_60 zt_yX8_in rfl rfl rfl (Nat.le_of_ble_eq_true rfl) (Nat.le_of_ble_eq_true rfl) (Nat.le_of_ble_eq_true rfl) (by exact Nat.le_refl _) (by exact Nat.le_refl _) ?_
  refine e_if_eq 22 14 dX8_rate_11 (by decide) rfl (fun h11 => ?_) (fun h11 => ?_)
  · exact absurd ((vR_nI (by decide)).mpr ⟨by decide, by decide⟩) (zB_0 h11)
  · refine e_aload_n 15 dX8_rate_14 rfl rfl ?_
    refine e_iload_n 16 dX8_rate_15 rfl rfl ?_
    refine c_Vqi 19 (ci := 8) dX8_rate_16 (k_X8_isWord G hr hd hW) lm_X8_156 zi_yX8_isWord zs_yX8_isWord rfl rfl (by decide) rfl rfl rfl (Nat.le_of_ble_eq_true rfl) (Nat.le_of_ble_eq_true rfl) (Nat.le_of_ble_eq_true rfl) (by exact Nat.le_refl _) (by exact Nat.le_refl _) ?_
    refine e_if_ne 25 22 dX8_rate_19 (by decide) rfl (fun h19 => ?_) (fun h19 => ?_)
    · have h19 := zB_1 h19
      obtain ⟨ew, hw9⟩ := h19.nat
      have hk6 : sRateOk Λ (nI 0) w := ⟨h19, (vN_nI (by decide)).mpr (by decide)⟩
      have e1 : sRate Λ m (nI 0) w = sRateV Λ m (zK w) 0 := iteP hk6
      have e2 : sRateTr Λ tr (nI 0) w = tr + lN (sRateT 0) := iteP hk6
      rw [e1, e2]
      clear e1 e2 hk6 h19
      generalize zK w = w9 at ew hw9 ⊢
      subst ew
      refine e_aload_n 26 dX8_rate_25 rfl rfl ?_
      refine e_getr 29 dX8_rate_26 lf_X8_32 rfl rfl rfl (by decide) hr.yw ?_
      refine e_iconst 30 hic_4 dX8_rate_29 rfl ?_
      refine e_iload_n 31 dX8_rate_30 rfl rfl ?_
      first | refine e_imulN 32 dX8_rate_31 rfl ?_ | refine e_imul 32 dX8_rate_31 rfl ?_
      refine e_iconst 33 hic_1 dX8_rate_32 rfl ?_
      first | refine e_iaddN 34 dX8_rate_33 rfl ?_ | refine e_iadd 34 dX8_rate_33 rfl ?_
      refine e_iald (v := nI (Λ 3 w9)) 35 dX8_rate_34 rfl rfl (by decide) rfl (by show _ < 40; omega) (hd.2.2.2 w9 hw9 1 (by decide)) ?_
      refine e_istore_n 36 dX8_rate_35 rfl (by decide) (zst1_3 rfl) ?_
      refine e_iload_n 37 dX8_rate_36 rfl rfl ?_
      refine e_aload_n 38 dX8_rate_37 rfl rfl ?_
      refine e_iload_n 39 dX8_rate_38 rfl rfl ?_
      refine e_iconst 40 hic_2 dX8_rate_39 rfl ?_
      refine c_Vqi 43 (ci := 8) dX8_rate_40 (k_X8_mn G hr hd hW hs hmw hw9 (by decide)) lm_X8_169 zi_yX8_mean zs_yX8_mean rfl rfl (by decide) rfl rfl rfl (Nat.le_of_ble_eq_true rfl) (Nat.le_of_ble_eq_true rfl) (Nat.le_of_ble_eq_true rfl) (by exact Nat.le_refl _) (by exact Nat.le_refl _) ?_
      first | refine e_iaddN 44 dX8_rate_43 rfl ?_ | refine e_iadd 44 dX8_rate_43 rfl ?_
      refine e_istore 46 dX8_rate_44 rfl (by decide) (zst1_4 rfl) ?_
      refine e_iload 48 dX8_rate_46 rfl rfl ?_
      refine e_aload_n 49 dX8_rate_48 rfl rfl ?_
      refine e_iload_n 50 dX8_rate_49 rfl rfl ?_
      refine e_iconst 51 hic_1 dX8_rate_50 rfl ?_
      refine c_Vqi 54 (ci := 8) dX8_rate_51 (k_X8_mn G hr hd hW hs hmw hw9 (by decide)) lm_X8_169 zi_yX8_mean zs_yX8_mean rfl rfl (by decide) rfl rfl rfl (Nat.le_of_ble_eq_true rfl) (Nat.le_of_ble_eq_true rfl) (Nat.le_of_ble_eq_true rfl) (by exact Nat.le_refl _) (by exact Nat.le_refl _) ?_
      refine e_isub 55 dX8_rate_54 rfl ?_
      refine e_istore 57 dX8_rate_55 rfl (by decide) (zst1_5 rfl) ?_
      refine e_aload_n 58 dX8_rate_57 rfl rfl ?_
      refine e_dup 59 dX8_rate_58 rfl rfl ?_
      refine e_getl 62 dX8_rate_59 lf_X8_243 rfl rfl rfl (by decide) htr ?_
      refine e_iload_n 63 dX8_rate_62 rfl rfl ?_
      refine e_if_neN 70 66 dX8_rate_63 (by decide) rfl (by decide) (fun h63 => ?_) (fun h63 => ?_)
      · exact absurd h63 (by decide)
      · refine e_lconst 67 (v := lN 1) rfl dX8_rate_66 rfl ?_
        refine e_goto 117 dX8_rate_67 (by decide) ?_
        refine e_ladd 118 dX8_rate_117 rfl ?_
        refine e_putl 121 dX8_rate_118 lf_X8_243 rfl rfl rfl rfl rfl (by decide) ?_
        refine e_iload_n 122 dX8_rate_121 rfl rfl ?_
        refine e_if_neN 129 125 dX8_rate_122 (by decide) rfl (by decide) (fun h122 => ?_) (fun h122 => ?_)
        · exact absurd h122 (by decide)
        · refine e_iload_n 126 dX8_rate_125 rfl rfl ?_
          refine e_goto 187 dX8_rate_126 (by decide) ?_
          refine e_ireturn .int dX8_rate_187 rfl rfl ?_
          exact ⟨_, rfl, rfl, hY.tr9 (zp_s _ _ _ _), fun q hq => hfr q (by omega), zTrY.p, rfl⟩
    · have h19 := zB_0 h19
      refine e_ldc 24 lc_X8_240 dX8_rate_22 rfl ?_
      refine e_ireturn .int dX8_rate_24 rfl rfl ?_
      have e1 : sRate Λ m (nI 0) w = -1000000 := iteN (fun q => h19 q.1)
      have e2 : sRateTr Λ tr (nI 0) w = tr := iteN (fun q => h19 q.1)
      rw [e1, e2]
      exact ⟨_, rfl, rfl, hY, fun q hq => hfr q (by omega), ⟨htr, fun _ _ => rfl⟩, rfl⟩

set_option maxHeartbeats 4000000 in
set_option maxRecDepth 100000 in
theorem k_X8_rate_1 (G : zG) {D E : Nat} {Λ : zLd} {late : Nat} {tr : Int64} {t : zTx} {m : zMo} {im : Nat → Nat × zMo} {l : zLt} {r : zWr} {mi : zFi} {ml : zFl} {mr : zFr} (hr : zRf mr D E) (hY : zY mi ml Λ late tr t m im l r) (hF : zWf Λ late t m im l r) {w : Int32} : zMet G 3 yX8_rate cX8_rate 6 (some .int) [.ref 224, .int (nI 1), .int w] 238 mi ml mr 238 (zPi fun x u b c => x = sRate Λ m (nI 1) w ∧ zY u b Λ late (sRateTr Λ tr (nI 1) w) t m im l r ∧ (∀ q, q < 224 → u q = mi q) ∧ zTrY ml b (sRateTr Λ tr (nI 1) w) ∧ c = mr) := by
  obtain ⟨hW, hla30, htw, hmw, himw, hlw, hrw⟩ := id hF
  have hP3 := hW.1.1
  have hW5 := hW.1.2.1
  have hy99 := hmw.1
  refine z_intro ([.ref 224, .int (nI 1), .int w, zx, zx, zx]) (by decide) rfl (Nat.le_of_ble_eq_true rfl) ?_
  refine e_aload_n 1 dX8_rate_0 rfl rfl ?_
  refine e_iconst 2 hic_0 dX8_rate_1 rfl ?_
  refine e_puti 5 dX8_rate_2 lf_X8_56 rfl rfl rfl rfl rfl (by decide) ?_
  obtain ⟨m1, em, hfr⟩ : ∃ m1, m1 = zp mi 224 0 (nI 0) ∧ ∀ q, q ≠ 224 → m1 q = mi q := ⟨_, rfl, fun q hq => zp_r _ _ _ hq⟩
  have hY := hY.th (k := 0) (v := nI 0) (Or.inl rfl)
  rw [← em] at hY ⊢
  obtain ⟨hd, hlate, htr, ht, hs, him, hl, hw⟩ := id hY
  refine e_iload_n 6 dX8_rate_5 rfl rfl ?_
  refine e_iconst 7 hic_0 dX8_rate_6 rfl ?_
  refine e_iconst 8 hic_5 dX8_rate_7 rfl ?_
  refine c_Sqi 11 dX8_rate_8 (k_X8_inN G (by decide) (by decide)) lm_X8_60 zt_yX8_in rfl rfl rfl (Nat.le_of_ble_eq_true rfl) (Nat.le_of_ble_eq_true rfl) (Nat.le_of_ble_eq_true rfl) (by exact Nat.le_refl _) (by exact Nat.le_refl _) ?_
  refine e_if_eq 22 14 dX8_rate_11 (by decide) rfl (fun h11 => ?_) (fun h11 => ?_)
  · exact absurd ((vR_nI (by decide)).mpr ⟨by decide, by decide⟩) (zB_0 h11)
  · refine e_aload_n 15 dX8_rate_14 rfl rfl ?_
    refine e_iload_n 16 dX8_rate_15 rfl rfl ?_
    refine c_Vqi 19 (ci := 8) dX8_rate_16 (k_X8_isWord G hr hd hW) lm_X8_156 zi_yX8_isWord zs_yX8_isWord rfl rfl (by decide) rfl rfl rfl (Nat.le_of_ble_eq_true rfl) (Nat.le_of_ble_eq_true rfl) (Nat.le_of_ble_eq_true rfl) (by exact Nat.le_refl _) (by exact Nat.le_refl _) ?_
    refine e_if_ne 25 22 dX8_rate_19 (by decide) rfl (fun h19 => ?_) (fun h19 => ?_)
    · have h19 := zB_1 h19
      obtain ⟨ew, hw9⟩ := h19.nat
      have hk6 : sRateOk Λ (nI 1) w := ⟨h19, (vN_nI (by decide)).mpr (by decide)⟩
      have e1 : sRate Λ m (nI 1) w = sRateV Λ m (zK w) 1 := iteP hk6
      have e2 : sRateTr Λ tr (nI 1) w = tr + lN (sRateT 1) := iteP hk6
      rw [e1, e2]
      clear e1 e2 hk6 h19
      generalize zK w = w9 at ew hw9 ⊢
      subst ew
      refine e_aload_n 26 dX8_rate_25 rfl rfl ?_
      refine e_getr 29 dX8_rate_26 lf_X8_32 rfl rfl rfl (by decide) hr.yw ?_
      refine e_iconst 30 hic_4 dX8_rate_29 rfl ?_
      refine e_iload_n 31 dX8_rate_30 rfl rfl ?_
      first | refine e_imulN 32 dX8_rate_31 rfl ?_ | refine e_imul 32 dX8_rate_31 rfl ?_
      refine e_iconst 33 hic_1 dX8_rate_32 rfl ?_
      first | refine e_iaddN 34 dX8_rate_33 rfl ?_ | refine e_iadd 34 dX8_rate_33 rfl ?_
      refine e_iald (v := nI (Λ 3 w9)) 35 dX8_rate_34 rfl rfl (by decide) rfl (by show _ < 40; omega) (hd.2.2.2 w9 hw9 1 (by decide)) ?_
      refine e_istore_n 36 dX8_rate_35 rfl (by decide) (zst1_3 rfl) ?_
      refine e_iload_n 37 dX8_rate_36 rfl rfl ?_
      refine e_aload_n 38 dX8_rate_37 rfl rfl ?_
      refine e_iload_n 39 dX8_rate_38 rfl rfl ?_
      refine e_iconst 40 hic_2 dX8_rate_39 rfl ?_
      refine c_Vqi 43 (ci := 8) dX8_rate_40 (k_X8_mn G hr hd hW hs hmw hw9 (by decide)) lm_X8_169 zi_yX8_mean zs_yX8_mean rfl rfl (by decide) rfl rfl rfl (Nat.le_of_ble_eq_true rfl) (Nat.le_of_ble_eq_true rfl) (Nat.le_of_ble_eq_true rfl) (by exact Nat.le_refl _) (by exact Nat.le_refl _) ?_
      first | refine e_iaddN 44 dX8_rate_43 rfl ?_ | refine e_iadd 44 dX8_rate_43 rfl ?_
      refine e_istore 46 dX8_rate_44 rfl (by decide) (zst1_4 rfl) ?_
      refine e_iload 48 dX8_rate_46 rfl rfl ?_
      refine e_aload_n 49 dX8_rate_48 rfl rfl ?_
      refine e_iload_n 50 dX8_rate_49 rfl rfl ?_
      refine e_iconst 51 hic_1 dX8_rate_50 rfl ?_
      refine c_Vqi 54 (ci := 8) dX8_rate_51 (k_X8_mn G hr hd hW hs hmw hw9 (by decide)) lm_X8_169 zi_yX8_mean zs_yX8_mean rfl rfl (by decide) rfl rfl rfl (Nat.le_of_ble_eq_true rfl) (Nat.le_of_ble_eq_true rfl) (Nat.le_of_ble_eq_true rfl) (by exact Nat.le_refl _) (by exact Nat.le_refl _) ?_
      refine e_isub 55 dX8_rate_54 rfl ?_
      refine e_istore 57 dX8_rate_55 rfl (by decide) (zst1_5 rfl) ?_
      refine e_aload_n 58 dX8_rate_57 rfl rfl ?_
      refine e_dup 59 dX8_rate_58 rfl rfl ?_
      refine e_getl 62 dX8_rate_59 lf_X8_243 rfl rfl rfl (by decide) htr ?_
      refine e_iload_n 63 dX8_rate_62 rfl rfl ?_
      refine e_if_neN 70 66 dX8_rate_63 (by decide) rfl (by decide) (fun h63 => ?_) (fun h63 => ?_)
      · refine e_iload_n 71 dX8_rate_70 rfl rfl ?_
        refine e_iconst 72 hic_1 dX8_rate_71 rfl ?_
        refine e_icmp_neN 81 75 dX8_rate_72 (by decide) rfl (by decide) (by decide) (fun h72 => ?_) (fun h72 => ?_)
        · exact absurd h72 (by decide)
        · refine e_ldc2_w 78 lc_X8_247 dX8_rate_75 rfl ?_
          refine e_goto 117 dX8_rate_78 (by decide) ?_
          refine e_ladd 118 dX8_rate_117 rfl ?_
          refine e_putl 121 dX8_rate_118 lf_X8_243 rfl rfl rfl rfl rfl (by decide) ?_
          refine e_iload_n 122 dX8_rate_121 rfl rfl ?_
          refine e_if_neN 129 125 dX8_rate_122 (by decide) rfl (by decide) (fun h122 => ?_) (fun h122 => ?_)
          · refine e_iload_n 130 dX8_rate_129 rfl rfl ?_
            refine e_iconst 131 hic_1 dX8_rate_130 rfl ?_
            refine e_icmp_neN 145 134 dX8_rate_131 (by decide) rfl (by decide) (by decide) (fun h131 => ?_) (fun h131 => ?_)
            · exact absurd h131 (by decide)
            · refine e_iload_n 135 dX8_rate_134 rfl rfl ?_
              refine e_aload_n 136 dX8_rate_135 rfl rfl ?_
              refine e_iload_n 137 dX8_rate_136 rfl rfl ?_
              refine e_iconst 138 hic_0 dX8_rate_137 rfl ?_
              refine c_Vqi 141 (ci := 8) dX8_rate_138 (k_X8_mn G hr hd hW hs hmw hw9 (by decide)) lm_X8_169 zi_yX8_mean zs_yX8_mean rfl rfl (by decide) rfl rfl rfl (Nat.le_of_ble_eq_true rfl) (Nat.le_of_ble_eq_true rfl) (Nat.le_of_ble_eq_true rfl) (by exact Nat.le_refl _) (by exact Nat.le_refl _) ?_
              first | refine e_iaddN 142 dX8_rate_141 rfl ?_ | refine e_iadd 142 dX8_rate_141 rfl ?_
              refine e_goto 187 dX8_rate_142 (by decide) ?_
              refine e_ireturn .int dX8_rate_187 rfl rfl ?_
              exact ⟨_, rfl, rfl, hY.tr9 (zp_s _ _ _ _), fun q hq => hfr q (by omega), zTrY.p, rfl⟩
          · exact absurd h122 (by decide)
      · exact absurd h63 (by decide)
    · have h19 := zB_0 h19
      refine e_ldc 24 lc_X8_240 dX8_rate_22 rfl ?_
      refine e_ireturn .int dX8_rate_24 rfl rfl ?_
      have e1 : sRate Λ m (nI 1) w = -1000000 := iteN (fun q => h19 q.1)
      have e2 : sRateTr Λ tr (nI 1) w = tr := iteN (fun q => h19 q.1)
      rw [e1, e2]
      exact ⟨_, rfl, rfl, hY, fun q hq => hfr q (by omega), ⟨htr, fun _ _ => rfl⟩, rfl⟩

set_option maxHeartbeats 4000000 in
set_option maxRecDepth 100000 in
theorem k_X8_rate_2 (G : zG) {D E : Nat} {Λ : zLd} {late : Nat} {tr : Int64} {t : zTx} {m : zMo} {im : Nat → Nat × zMo} {l : zLt} {r : zWr} {mi : zFi} {ml : zFl} {mr : zFr} (hr : zRf mr D E) (hY : zY mi ml Λ late tr t m im l r) (hF : zWf Λ late t m im l r) {w : Int32} : zMet G 3 yX8_rate cX8_rate 6 (some .int) [.ref 224, .int (nI 2), .int w] 238 mi ml mr 238 (zPi fun x u b c => x = sRate Λ m (nI 2) w ∧ zY u b Λ late (sRateTr Λ tr (nI 2) w) t m im l r ∧ (∀ q, q < 224 → u q = mi q) ∧ zTrY ml b (sRateTr Λ tr (nI 2) w) ∧ c = mr) := by
  obtain ⟨hW, hla30, htw, hmw, himw, hlw, hrw⟩ := id hF
  have hP3 := hW.1.1
  have hW5 := hW.1.2.1
  have hy99 := hmw.1
  refine z_intro ([.ref 224, .int (nI 2), .int w, zx, zx, zx]) (by decide) rfl (Nat.le_of_ble_eq_true rfl) ?_
  refine e_aload_n 1 dX8_rate_0 rfl rfl ?_
  refine e_iconst 2 hic_0 dX8_rate_1 rfl ?_
  refine e_puti 5 dX8_rate_2 lf_X8_56 rfl rfl rfl rfl rfl (by decide) ?_
  obtain ⟨m1, em, hfr⟩ : ∃ m1, m1 = zp mi 224 0 (nI 0) ∧ ∀ q, q ≠ 224 → m1 q = mi q := ⟨_, rfl, fun q hq => zp_r _ _ _ hq⟩
  have hY := hY.th (k := 0) (v := nI 0) (Or.inl rfl)
  rw [← em] at hY ⊢
  obtain ⟨hd, hlate, htr, ht, hs, him, hl, hw⟩ := id hY
  refine e_iload_n 6 dX8_rate_5 rfl rfl ?_
  refine e_iconst 7 hic_0 dX8_rate_6 rfl ?_
  refine e_iconst 8 hic_5 dX8_rate_7 rfl ?_
  refine c_Sqi 11 dX8_rate_8 (k_X8_inN G (by decide) (by decide)) lm_X8_60 zt_yX8_in rfl rfl rfl (Nat.le_of_ble_eq_true rfl) (Nat.le_of_ble_eq_true rfl) (Nat.le_of_ble_eq_true rfl) (by exact Nat.le_refl _) (by exact Nat.le_refl _) ?_
  refine e_if_eq 22 14 dX8_rate_11 (by decide) rfl (fun h11 => ?_) (fun h11 => ?_)
  · exact absurd ((vR_nI (by decide)).mpr ⟨by decide, by decide⟩) (zB_0 h11)
  · refine e_aload_n 15 dX8_rate_14 rfl rfl ?_
    refine e_iload_n 16 dX8_rate_15 rfl rfl ?_
    refine c_Vqi 19 (ci := 8) dX8_rate_16 (k_X8_isWord G hr hd hW) lm_X8_156 zi_yX8_isWord zs_yX8_isWord rfl rfl (by decide) rfl rfl rfl (Nat.le_of_ble_eq_true rfl) (Nat.le_of_ble_eq_true rfl) (Nat.le_of_ble_eq_true rfl) (by exact Nat.le_refl _) (by exact Nat.le_refl _) ?_
    refine e_if_ne 25 22 dX8_rate_19 (by decide) rfl (fun h19 => ?_) (fun h19 => ?_)
    · have h19 := zB_1 h19
      obtain ⟨ew, hw9⟩ := h19.nat
      have hk6 : sRateOk Λ (nI 2) w := ⟨h19, (vN_nI (by decide)).mpr (by decide)⟩
      have e1 : sRate Λ m (nI 2) w = sRateV Λ m (zK w) 2 := iteP hk6
      have e2 : sRateTr Λ tr (nI 2) w = tr + lN (sRateT 2) := iteP hk6
      rw [e1, e2]
      clear e1 e2 hk6 h19
      generalize zK w = w9 at ew hw9 ⊢
      subst ew
      refine e_aload_n 26 dX8_rate_25 rfl rfl ?_
      refine e_getr 29 dX8_rate_26 lf_X8_32 rfl rfl rfl (by decide) hr.yw ?_
      refine e_iconst 30 hic_4 dX8_rate_29 rfl ?_
      refine e_iload_n 31 dX8_rate_30 rfl rfl ?_
      first | refine e_imulN 32 dX8_rate_31 rfl ?_ | refine e_imul 32 dX8_rate_31 rfl ?_
      refine e_iconst 33 hic_1 dX8_rate_32 rfl ?_
      first | refine e_iaddN 34 dX8_rate_33 rfl ?_ | refine e_iadd 34 dX8_rate_33 rfl ?_
      refine e_iald (v := nI (Λ 3 w9)) 35 dX8_rate_34 rfl rfl (by decide) rfl (by show _ < 40; omega) (hd.2.2.2 w9 hw9 1 (by decide)) ?_
      refine e_istore_n 36 dX8_rate_35 rfl (by decide) (zst1_3 rfl) ?_
      refine e_iload_n 37 dX8_rate_36 rfl rfl ?_
      refine e_aload_n 38 dX8_rate_37 rfl rfl ?_
      refine e_iload_n 39 dX8_rate_38 rfl rfl ?_
      refine e_iconst 40 hic_2 dX8_rate_39 rfl ?_
      refine c_Vqi 43 (ci := 8) dX8_rate_40 (k_X8_mn G hr hd hW hs hmw hw9 (by decide)) lm_X8_169 zi_yX8_mean zs_yX8_mean rfl rfl (by decide) rfl rfl rfl (Nat.le_of_ble_eq_true rfl) (Nat.le_of_ble_eq_true rfl) (Nat.le_of_ble_eq_true rfl) (by exact Nat.le_refl _) (by exact Nat.le_refl _) ?_
      first | refine e_iaddN 44 dX8_rate_43 rfl ?_ | refine e_iadd 44 dX8_rate_43 rfl ?_
      refine e_istore 46 dX8_rate_44 rfl (by decide) (zst1_4 rfl) ?_
      refine e_iload 48 dX8_rate_46 rfl rfl ?_
      refine e_aload_n 49 dX8_rate_48 rfl rfl ?_
      refine e_iload_n 50 dX8_rate_49 rfl rfl ?_
      refine e_iconst 51 hic_1 dX8_rate_50 rfl ?_
      refine c_Vqi 54 (ci := 8) dX8_rate_51 (k_X8_mn G hr hd hW hs hmw hw9 (by decide)) lm_X8_169 zi_yX8_mean zs_yX8_mean rfl rfl (by decide) rfl rfl rfl (Nat.le_of_ble_eq_true rfl) (Nat.le_of_ble_eq_true rfl) (Nat.le_of_ble_eq_true rfl) (by exact Nat.le_refl _) (by exact Nat.le_refl _) ?_
      refine e_isub 55 dX8_rate_54 rfl ?_
      refine e_istore 57 dX8_rate_55 rfl (by decide) (zst1_5 rfl) ?_
      refine e_aload_n 58 dX8_rate_57 rfl rfl ?_
      refine e_dup 59 dX8_rate_58 rfl rfl ?_
      refine e_getl 62 dX8_rate_59 lf_X8_243 rfl rfl rfl (by decide) htr ?_
      refine e_iload_n 63 dX8_rate_62 rfl rfl ?_
      refine e_if_neN 70 66 dX8_rate_63 (by decide) rfl (by decide) (fun h63 => ?_) (fun h63 => ?_)
      · refine e_iload_n 71 dX8_rate_70 rfl rfl ?_
        refine e_iconst 72 hic_1 dX8_rate_71 rfl ?_
        refine e_icmp_neN 81 75 dX8_rate_72 (by decide) rfl (by decide) (by decide) (fun h72 => ?_) (fun h72 => ?_)
        · refine e_iload_n 82 dX8_rate_81 rfl rfl ?_
          refine e_iconst 83 hic_2 dX8_rate_82 rfl ?_
          refine e_icmp_neN 92 86 dX8_rate_83 (by decide) rfl (by decide) (by decide) (fun h83 => ?_) (fun h83 => ?_)
          · exact absurd h83 (by decide)
          · refine e_ldc2_w 89 lc_X8_249 dX8_rate_86 rfl ?_
            refine e_goto 117 dX8_rate_89 (by decide) ?_
            refine e_ladd 118 dX8_rate_117 rfl ?_
            refine e_putl 121 dX8_rate_118 lf_X8_243 rfl rfl rfl rfl rfl (by decide) ?_
            refine e_iload_n 122 dX8_rate_121 rfl rfl ?_
            refine e_if_neN 129 125 dX8_rate_122 (by decide) rfl (by decide) (fun h122 => ?_) (fun h122 => ?_)
            · refine e_iload_n 130 dX8_rate_129 rfl rfl ?_
              refine e_iconst 131 hic_1 dX8_rate_130 rfl ?_
              refine e_icmp_neN 145 134 dX8_rate_131 (by decide) rfl (by decide) (by decide) (fun h131 => ?_) (fun h131 => ?_)
              · refine e_iload_n 146 dX8_rate_145 rfl rfl ?_
                refine e_iconst 147 hic_2 dX8_rate_146 rfl ?_
                refine e_icmp_neN 155 150 dX8_rate_147 (by decide) rfl (by decide) (by decide) (fun h147 => ?_) (fun h147 => ?_)
                · exact absurd h147 (by decide)
                · refine e_iload 152 dX8_rate_150 rfl rfl ?_
                  refine e_goto 187 dX8_rate_152 (by decide) ?_
                  refine e_ireturn .int dX8_rate_187 rfl rfl ?_
                  exact ⟨_, rfl, rfl, hY.tr9 (zp_s _ _ _ _), fun q hq => hfr q (by omega), zTrY.p, rfl⟩
              · exact absurd h131 (by decide)
            · exact absurd h122 (by decide)
        · exact absurd h72 (by decide)
      · exact absurd h63 (by decide)
    · have h19 := zB_0 h19
      refine e_ldc 24 lc_X8_240 dX8_rate_22 rfl ?_
      refine e_ireturn .int dX8_rate_24 rfl rfl ?_
      have e1 : sRate Λ m (nI 2) w = -1000000 := iteN (fun q => h19 q.1)
      have e2 : sRateTr Λ tr (nI 2) w = tr := iteN (fun q => h19 q.1)
      rw [e1, e2]
      exact ⟨_, rfl, rfl, hY, fun q hq => hfr q (by omega), ⟨htr, fun _ _ => rfl⟩, rfl⟩

set_option maxHeartbeats 4000000 in
set_option maxRecDepth 100000 in
theorem k_X8_rate_3 (G : zG) {D E : Nat} {Λ : zLd} {late : Nat} {tr : Int64} {t : zTx} {m : zMo} {im : Nat → Nat × zMo} {l : zLt} {r : zWr} {mi : zFi} {ml : zFl} {mr : zFr} (hr : zRf mr D E) (hY : zY mi ml Λ late tr t m im l r) (hF : zWf Λ late t m im l r) {w : Int32} : zMet G 3 yX8_rate cX8_rate 6 (some .int) [.ref 224, .int (nI 3), .int w] 238 mi ml mr 238 (zPi fun x u b c => x = sRate Λ m (nI 3) w ∧ zY u b Λ late (sRateTr Λ tr (nI 3) w) t m im l r ∧ (∀ q, q < 224 → u q = mi q) ∧ zTrY ml b (sRateTr Λ tr (nI 3) w) ∧ c = mr) := by
  obtain ⟨hW, hla30, htw, hmw, himw, hlw, hrw⟩ := id hF
  have hP3 := hW.1.1
  have hW5 := hW.1.2.1
  have hy99 := hmw.1
  refine z_intro ([.ref 224, .int (nI 3), .int w, zx, zx, zx]) (by decide) rfl (Nat.le_of_ble_eq_true rfl) ?_
  refine e_aload_n 1 dX8_rate_0 rfl rfl ?_
  refine e_iconst 2 hic_0 dX8_rate_1 rfl ?_
  refine e_puti 5 dX8_rate_2 lf_X8_56 rfl rfl rfl rfl rfl (by decide) ?_
  obtain ⟨m1, em, hfr⟩ : ∃ m1, m1 = zp mi 224 0 (nI 0) ∧ ∀ q, q ≠ 224 → m1 q = mi q := ⟨_, rfl, fun q hq => zp_r _ _ _ hq⟩
  have hY := hY.th (k := 0) (v := nI 0) (Or.inl rfl)
  rw [← em] at hY ⊢
  obtain ⟨hd, hlate, htr, ht, hs, him, hl, hw⟩ := id hY
  refine e_iload_n 6 dX8_rate_5 rfl rfl ?_
  refine e_iconst 7 hic_0 dX8_rate_6 rfl ?_
  refine e_iconst 8 hic_5 dX8_rate_7 rfl ?_
  refine c_Sqi 11 dX8_rate_8 (k_X8_inN G (by decide) (by decide)) lm_X8_60 zt_yX8_in rfl rfl rfl (Nat.le_of_ble_eq_true rfl) (Nat.le_of_ble_eq_true rfl) (Nat.le_of_ble_eq_true rfl) (by exact Nat.le_refl _) (by exact Nat.le_refl _) ?_
  refine e_if_eq 22 14 dX8_rate_11 (by decide) rfl (fun h11 => ?_) (fun h11 => ?_)
  · exact absurd ((vR_nI (by decide)).mpr ⟨by decide, by decide⟩) (zB_0 h11)
  · refine e_aload_n 15 dX8_rate_14 rfl rfl ?_
    refine e_iload_n 16 dX8_rate_15 rfl rfl ?_
    refine c_Vqi 19 (ci := 8) dX8_rate_16 (k_X8_isWord G hr hd hW) lm_X8_156 zi_yX8_isWord zs_yX8_isWord rfl rfl (by decide) rfl rfl rfl (Nat.le_of_ble_eq_true rfl) (Nat.le_of_ble_eq_true rfl) (Nat.le_of_ble_eq_true rfl) (by exact Nat.le_refl _) (by exact Nat.le_refl _) ?_
    refine e_if_ne 25 22 dX8_rate_19 (by decide) rfl (fun h19 => ?_) (fun h19 => ?_)
    · have h19 := zB_1 h19
      obtain ⟨ew, hw9⟩ := h19.nat
      have hk6 : sRateOk Λ (nI 3) w := ⟨h19, (vN_nI (by decide)).mpr (by decide)⟩
      have e1 : sRate Λ m (nI 3) w = sRateV Λ m (zK w) 3 := iteP hk6
      have e2 : sRateTr Λ tr (nI 3) w = tr + lN (sRateT 3) := iteP hk6
      rw [e1, e2]
      clear e1 e2 hk6 h19
      generalize zK w = w9 at ew hw9 ⊢
      subst ew
      refine e_aload_n 26 dX8_rate_25 rfl rfl ?_
      refine e_getr 29 dX8_rate_26 lf_X8_32 rfl rfl rfl (by decide) hr.yw ?_
      refine e_iconst 30 hic_4 dX8_rate_29 rfl ?_
      refine e_iload_n 31 dX8_rate_30 rfl rfl ?_
      first | refine e_imulN 32 dX8_rate_31 rfl ?_ | refine e_imul 32 dX8_rate_31 rfl ?_
      refine e_iconst 33 hic_1 dX8_rate_32 rfl ?_
      first | refine e_iaddN 34 dX8_rate_33 rfl ?_ | refine e_iadd 34 dX8_rate_33 rfl ?_
      refine e_iald (v := nI (Λ 3 w9)) 35 dX8_rate_34 rfl rfl (by decide) rfl (by show _ < 40; omega) (hd.2.2.2 w9 hw9 1 (by decide)) ?_
      refine e_istore_n 36 dX8_rate_35 rfl (by decide) (zst1_3 rfl) ?_
      refine e_iload_n 37 dX8_rate_36 rfl rfl ?_
      refine e_aload_n 38 dX8_rate_37 rfl rfl ?_
      refine e_iload_n 39 dX8_rate_38 rfl rfl ?_
      refine e_iconst 40 hic_2 dX8_rate_39 rfl ?_
      refine c_Vqi 43 (ci := 8) dX8_rate_40 (k_X8_mn G hr hd hW hs hmw hw9 (by decide)) lm_X8_169 zi_yX8_mean zs_yX8_mean rfl rfl (by decide) rfl rfl rfl (Nat.le_of_ble_eq_true rfl) (Nat.le_of_ble_eq_true rfl) (Nat.le_of_ble_eq_true rfl) (by exact Nat.le_refl _) (by exact Nat.le_refl _) ?_
      first | refine e_iaddN 44 dX8_rate_43 rfl ?_ | refine e_iadd 44 dX8_rate_43 rfl ?_
      refine e_istore 46 dX8_rate_44 rfl (by decide) (zst1_4 rfl) ?_
      refine e_iload 48 dX8_rate_46 rfl rfl ?_
      refine e_aload_n 49 dX8_rate_48 rfl rfl ?_
      refine e_iload_n 50 dX8_rate_49 rfl rfl ?_
      refine e_iconst 51 hic_1 dX8_rate_50 rfl ?_
      refine c_Vqi 54 (ci := 8) dX8_rate_51 (k_X8_mn G hr hd hW hs hmw hw9 (by decide)) lm_X8_169 zi_yX8_mean zs_yX8_mean rfl rfl (by decide) rfl rfl rfl (Nat.le_of_ble_eq_true rfl) (Nat.le_of_ble_eq_true rfl) (Nat.le_of_ble_eq_true rfl) (by exact Nat.le_refl _) (by exact Nat.le_refl _) ?_
      refine e_isub 55 dX8_rate_54 rfl ?_
      refine e_istore 57 dX8_rate_55 rfl (by decide) (zst1_5 rfl) ?_
      refine e_aload_n 58 dX8_rate_57 rfl rfl ?_
      refine e_dup 59 dX8_rate_58 rfl rfl ?_
      refine e_getl 62 dX8_rate_59 lf_X8_243 rfl rfl rfl (by decide) htr ?_
      refine e_iload_n 63 dX8_rate_62 rfl rfl ?_
      refine e_if_neN 70 66 dX8_rate_63 (by decide) rfl (by decide) (fun h63 => ?_) (fun h63 => ?_)
      · refine e_iload_n 71 dX8_rate_70 rfl rfl ?_
        refine e_iconst 72 hic_1 dX8_rate_71 rfl ?_
        refine e_icmp_neN 81 75 dX8_rate_72 (by decide) rfl (by decide) (by decide) (fun h72 => ?_) (fun h72 => ?_)
        · refine e_iload_n 82 dX8_rate_81 rfl rfl ?_
          refine e_iconst 83 hic_2 dX8_rate_82 rfl ?_
          refine e_icmp_neN 92 86 dX8_rate_83 (by decide) rfl (by decide) (by decide) (fun h83 => ?_) (fun h83 => ?_)
          · refine e_iload_n 93 dX8_rate_92 rfl rfl ?_
            refine e_iconst 94 hic_3 dX8_rate_93 rfl ?_
            refine e_icmp_neN 103 97 dX8_rate_94 (by decide) rfl (by decide) (by decide) (fun h94 => ?_) (fun h94 => ?_)
            · exact absurd h94 (by decide)
            · refine e_ldc2_w 100 lc_X8_251 dX8_rate_97 rfl ?_
              refine e_goto 117 dX8_rate_100 (by decide) ?_
              refine e_ladd 118 dX8_rate_117 rfl ?_
              refine e_putl 121 dX8_rate_118 lf_X8_243 rfl rfl rfl rfl rfl (by decide) ?_
              refine e_iload_n 122 dX8_rate_121 rfl rfl ?_
              refine e_if_neN 129 125 dX8_rate_122 (by decide) rfl (by decide) (fun h122 => ?_) (fun h122 => ?_)
              · refine e_iload_n 130 dX8_rate_129 rfl rfl ?_
                refine e_iconst 131 hic_1 dX8_rate_130 rfl ?_
                refine e_icmp_neN 145 134 dX8_rate_131 (by decide) rfl (by decide) (by decide) (fun h131 => ?_) (fun h131 => ?_)
                · refine e_iload_n 146 dX8_rate_145 rfl rfl ?_
                  refine e_iconst 147 hic_2 dX8_rate_146 rfl ?_
                  refine e_icmp_neN 155 150 dX8_rate_147 (by decide) rfl (by decide) (by decide) (fun h147 => ?_) (fun h147 => ?_)
                  · refine e_iload_n 156 dX8_rate_155 rfl rfl ?_
                    refine e_iconst 157 hic_3 dX8_rate_156 rfl ?_
                    refine e_icmp_neN 165 160 dX8_rate_157 (by decide) rfl (by decide) (by decide) (fun h157 => ?_) (fun h157 => ?_)
                    · exact absurd h157 (by decide)
                    · refine e_iload 162 dX8_rate_160 rfl rfl ?_
                      refine e_goto 187 dX8_rate_162 (by decide) ?_
                      refine e_ireturn .int dX8_rate_187 rfl rfl ?_
                      exact ⟨_, rfl, rfl, hY.tr9 (zp_s _ _ _ _), fun q hq => hfr q (by omega), zTrY.p, rfl⟩
                  · exact absurd h147 (by decide)
                · exact absurd h131 (by decide)
              · exact absurd h122 (by decide)
          · exact absurd h83 (by decide)
        · exact absurd h72 (by decide)
      · exact absurd h63 (by decide)
    · have h19 := zB_0 h19
      refine e_ldc 24 lc_X8_240 dX8_rate_22 rfl ?_
      refine e_ireturn .int dX8_rate_24 rfl rfl ?_
      have e1 : sRate Λ m (nI 3) w = -1000000 := iteN (fun q => h19 q.1)
      have e2 : sRateTr Λ tr (nI 3) w = tr := iteN (fun q => h19 q.1)
      rw [e1, e2]
      exact ⟨_, rfl, rfl, hY, fun q hq => hfr q (by omega), ⟨htr, fun _ _ => rfl⟩, rfl⟩

set_option maxHeartbeats 4000000 in
set_option maxRecDepth 100000 in
theorem k_X8_rate_4 (G : zG) {D E : Nat} {Λ : zLd} {late : Nat} {tr : Int64} {t : zTx} {m : zMo} {im : Nat → Nat × zMo} {l : zLt} {r : zWr} {mi : zFi} {ml : zFl} {mr : zFr} (hr : zRf mr D E) (hY : zY mi ml Λ late tr t m im l r) (hF : zWf Λ late t m im l r) {w : Int32} : zMet G 3 yX8_rate cX8_rate 6 (some .int) [.ref 224, .int (nI 4), .int w] 238 mi ml mr 238 (zPi fun x u b c => x = sRate Λ m (nI 4) w ∧ zY u b Λ late (sRateTr Λ tr (nI 4) w) t m im l r ∧ (∀ q, q < 224 → u q = mi q) ∧ zTrY ml b (sRateTr Λ tr (nI 4) w) ∧ c = mr) := by
  obtain ⟨hW, hla30, htw, hmw, himw, hlw, hrw⟩ := id hF
  have hP3 := hW.1.1
  have hW5 := hW.1.2.1
  have hy99 := hmw.1
  refine z_intro ([.ref 224, .int (nI 4), .int w, zx, zx, zx]) (by decide) rfl (Nat.le_of_ble_eq_true rfl) ?_
  refine e_aload_n 1 dX8_rate_0 rfl rfl ?_
  refine e_iconst 2 hic_0 dX8_rate_1 rfl ?_
  refine e_puti 5 dX8_rate_2 lf_X8_56 rfl rfl rfl rfl rfl (by decide) ?_
  obtain ⟨m1, em, hfr⟩ : ∃ m1, m1 = zp mi 224 0 (nI 0) ∧ ∀ q, q ≠ 224 → m1 q = mi q := ⟨_, rfl, fun q hq => zp_r _ _ _ hq⟩
  have hY := hY.th (k := 0) (v := nI 0) (Or.inl rfl)
  rw [← em] at hY ⊢
  obtain ⟨hd, hlate, htr, ht, hs, him, hl, hw⟩ := id hY
  refine e_iload_n 6 dX8_rate_5 rfl rfl ?_
  refine e_iconst 7 hic_0 dX8_rate_6 rfl ?_
  refine e_iconst 8 hic_5 dX8_rate_7 rfl ?_
  refine c_Sqi 11 dX8_rate_8 (k_X8_inN G (by decide) (by decide)) lm_X8_60 zt_yX8_in rfl rfl rfl (Nat.le_of_ble_eq_true rfl) (Nat.le_of_ble_eq_true rfl) (Nat.le_of_ble_eq_true rfl) (by exact Nat.le_refl _) (by exact Nat.le_refl _) ?_
  refine e_if_eq 22 14 dX8_rate_11 (by decide) rfl (fun h11 => ?_) (fun h11 => ?_)
  · exact absurd ((vR_nI (by decide)).mpr ⟨by decide, by decide⟩) (zB_0 h11)
  · refine e_aload_n 15 dX8_rate_14 rfl rfl ?_
    refine e_iload_n 16 dX8_rate_15 rfl rfl ?_
    refine c_Vqi 19 (ci := 8) dX8_rate_16 (k_X8_isWord G hr hd hW) lm_X8_156 zi_yX8_isWord zs_yX8_isWord rfl rfl (by decide) rfl rfl rfl (Nat.le_of_ble_eq_true rfl) (Nat.le_of_ble_eq_true rfl) (Nat.le_of_ble_eq_true rfl) (by exact Nat.le_refl _) (by exact Nat.le_refl _) ?_
    refine e_if_ne 25 22 dX8_rate_19 (by decide) rfl (fun h19 => ?_) (fun h19 => ?_)
    · have h19 := zB_1 h19
      obtain ⟨ew, hw9⟩ := h19.nat
      have hk6 : sRateOk Λ (nI 4) w := ⟨h19, (vN_nI (by decide)).mpr (by decide)⟩
      have e1 : sRate Λ m (nI 4) w = sRateV Λ m (zK w) 4 := iteP hk6
      have e2 : sRateTr Λ tr (nI 4) w = tr + lN (sRateT 4) := iteP hk6
      rw [e1, e2]
      clear e1 e2 hk6 h19
      generalize zK w = w9 at ew hw9 ⊢
      subst ew
      refine e_aload_n 26 dX8_rate_25 rfl rfl ?_
      refine e_getr 29 dX8_rate_26 lf_X8_32 rfl rfl rfl (by decide) hr.yw ?_
      refine e_iconst 30 hic_4 dX8_rate_29 rfl ?_
      refine e_iload_n 31 dX8_rate_30 rfl rfl ?_
      first | refine e_imulN 32 dX8_rate_31 rfl ?_ | refine e_imul 32 dX8_rate_31 rfl ?_
      refine e_iconst 33 hic_1 dX8_rate_32 rfl ?_
      first | refine e_iaddN 34 dX8_rate_33 rfl ?_ | refine e_iadd 34 dX8_rate_33 rfl ?_
      refine e_iald (v := nI (Λ 3 w9)) 35 dX8_rate_34 rfl rfl (by decide) rfl (by show _ < 40; omega) (hd.2.2.2 w9 hw9 1 (by decide)) ?_
      refine e_istore_n 36 dX8_rate_35 rfl (by decide) (zst1_3 rfl) ?_
      refine e_iload_n 37 dX8_rate_36 rfl rfl ?_
      refine e_aload_n 38 dX8_rate_37 rfl rfl ?_
      refine e_iload_n 39 dX8_rate_38 rfl rfl ?_
      refine e_iconst 40 hic_2 dX8_rate_39 rfl ?_
      refine c_Vqi 43 (ci := 8) dX8_rate_40 (k_X8_mn G hr hd hW hs hmw hw9 (by decide)) lm_X8_169 zi_yX8_mean zs_yX8_mean rfl rfl (by decide) rfl rfl rfl (Nat.le_of_ble_eq_true rfl) (Nat.le_of_ble_eq_true rfl) (Nat.le_of_ble_eq_true rfl) (by exact Nat.le_refl _) (by exact Nat.le_refl _) ?_
      first | refine e_iaddN 44 dX8_rate_43 rfl ?_ | refine e_iadd 44 dX8_rate_43 rfl ?_
      refine e_istore 46 dX8_rate_44 rfl (by decide) (zst1_4 rfl) ?_
      refine e_iload 48 dX8_rate_46 rfl rfl ?_
      refine e_aload_n 49 dX8_rate_48 rfl rfl ?_
      refine e_iload_n 50 dX8_rate_49 rfl rfl ?_
      refine e_iconst 51 hic_1 dX8_rate_50 rfl ?_
      refine c_Vqi 54 (ci := 8) dX8_rate_51 (k_X8_mn G hr hd hW hs hmw hw9 (by decide)) lm_X8_169 zi_yX8_mean zs_yX8_mean rfl rfl (by decide) rfl rfl rfl (Nat.le_of_ble_eq_true rfl) (Nat.le_of_ble_eq_true rfl) (Nat.le_of_ble_eq_true rfl) (by exact Nat.le_refl _) (by exact Nat.le_refl _) ?_
      refine e_isub 55 dX8_rate_54 rfl ?_
      refine e_istore 57 dX8_rate_55 rfl (by decide) (zst1_5 rfl) ?_
      refine e_aload_n 58 dX8_rate_57 rfl rfl ?_
      refine e_dup 59 dX8_rate_58 rfl rfl ?_
      refine e_getl 62 dX8_rate_59 lf_X8_243 rfl rfl rfl (by decide) htr ?_
      refine e_iload_n 63 dX8_rate_62 rfl rfl ?_
      refine e_if_neN 70 66 dX8_rate_63 (by decide) rfl (by decide) (fun h63 => ?_) (fun h63 => ?_)
      · refine e_iload_n 71 dX8_rate_70 rfl rfl ?_
        refine e_iconst 72 hic_1 dX8_rate_71 rfl ?_
        refine e_icmp_neN 81 75 dX8_rate_72 (by decide) rfl (by decide) (by decide) (fun h72 => ?_) (fun h72 => ?_)
        · refine e_iload_n 82 dX8_rate_81 rfl rfl ?_
          refine e_iconst 83 hic_2 dX8_rate_82 rfl ?_
          refine e_icmp_neN 92 86 dX8_rate_83 (by decide) rfl (by decide) (by decide) (fun h83 => ?_) (fun h83 => ?_)
          · refine e_iload_n 93 dX8_rate_92 rfl rfl ?_
            refine e_iconst 94 hic_3 dX8_rate_93 rfl ?_
            refine e_icmp_neN 103 97 dX8_rate_94 (by decide) rfl (by decide) (by decide) (fun h94 => ?_) (fun h94 => ?_)
            · refine e_iload_n 104 dX8_rate_103 rfl rfl ?_
              refine e_iconst 105 hic_4 dX8_rate_104 rfl ?_
              refine e_icmp_neN 114 108 dX8_rate_105 (by decide) rfl (by decide) (by decide) (fun h105 => ?_) (fun h105 => ?_)
              · exact absurd h105 (by decide)
              · refine e_ldc2_w 111 lc_X8_253 dX8_rate_108 rfl ?_
                refine e_goto 117 dX8_rate_111 (by decide) ?_
                refine e_ladd 118 dX8_rate_117 rfl ?_
                refine e_putl 121 dX8_rate_118 lf_X8_243 rfl rfl rfl rfl rfl (by decide) ?_
                refine e_iload_n 122 dX8_rate_121 rfl rfl ?_
                refine e_if_neN 129 125 dX8_rate_122 (by decide) rfl (by decide) (fun h122 => ?_) (fun h122 => ?_)
                · refine e_iload_n 130 dX8_rate_129 rfl rfl ?_
                  refine e_iconst 131 hic_1 dX8_rate_130 rfl ?_
                  refine e_icmp_neN 145 134 dX8_rate_131 (by decide) rfl (by decide) (by decide) (fun h131 => ?_) (fun h131 => ?_)
                  · refine e_iload_n 146 dX8_rate_145 rfl rfl ?_
                    refine e_iconst 147 hic_2 dX8_rate_146 rfl ?_
                    refine e_icmp_neN 155 150 dX8_rate_147 (by decide) rfl (by decide) (by decide) (fun h147 => ?_) (fun h147 => ?_)
                    · refine e_iload_n 156 dX8_rate_155 rfl rfl ?_
                      refine e_iconst 157 hic_3 dX8_rate_156 rfl ?_
                      refine e_icmp_neN 165 160 dX8_rate_157 (by decide) rfl (by decide) (by decide) (fun h157 => ?_) (fun h157 => ?_)
                      · refine e_iload_n 166 dX8_rate_165 rfl rfl ?_
                        refine e_iconst 167 hic_4 dX8_rate_166 rfl ?_
                        refine e_icmp_neN 177 170 dX8_rate_167 (by decide) rfl (by decide) (by decide) (fun h167 => ?_) (fun h167 => ?_)
                        · exact absurd h167 (by decide)
                        · refine e_iconst 171 hic_2 dX8_rate_170 rfl ?_
                          refine e_iload 173 dX8_rate_171 rfl rfl ?_
                          refine e_imul 174 dX8_rate_173 rfl ?_
                          refine e_goto 187 dX8_rate_174 (by decide) ?_
                          refine e_ireturn .int dX8_rate_187 rfl rfl ?_
                          exact ⟨_, rfl, rfl, hY.tr9 (zp_s _ _ _ _), fun q hq => hfr q (by omega), zTrY.p, rfl⟩
                      · exact absurd h157 (by decide)
                    · exact absurd h147 (by decide)
                  · exact absurd h131 (by decide)
                · exact absurd h122 (by decide)
            · exact absurd h94 (by decide)
          · exact absurd h83 (by decide)
        · exact absurd h72 (by decide)
      · exact absurd h63 (by decide)
    · have h19 := zB_0 h19
      refine e_ldc 24 lc_X8_240 dX8_rate_22 rfl ?_
      refine e_ireturn .int dX8_rate_24 rfl rfl ?_
      have e1 : sRate Λ m (nI 4) w = -1000000 := iteN (fun q => h19 q.1)
      have e2 : sRateTr Λ tr (nI 4) w = tr := iteN (fun q => h19 q.1)
      rw [e1, e2]
      exact ⟨_, rfl, rfl, hY, fun q hq => hfr q (by omega), ⟨htr, fun _ _ => rfl⟩, rfl⟩

set_option maxHeartbeats 4000000 in
set_option maxRecDepth 100000 in
theorem k_X8_rate_5 (G : zG) {D E : Nat} {Λ : zLd} {late : Nat} {tr : Int64} {t : zTx} {m : zMo} {im : Nat → Nat × zMo} {l : zLt} {r : zWr} {mi : zFi} {ml : zFl} {mr : zFr} (hr : zRf mr D E) (hY : zY mi ml Λ late tr t m im l r) (hF : zWf Λ late t m im l r) {w : Int32} : zMet G 3 yX8_rate cX8_rate 6 (some .int) [.ref 224, .int (nI 5), .int w] 238 mi ml mr 238 (zPi fun x u b c => x = sRate Λ m (nI 5) w ∧ zY u b Λ late (sRateTr Λ tr (nI 5) w) t m im l r ∧ (∀ q, q < 224 → u q = mi q) ∧ zTrY ml b (sRateTr Λ tr (nI 5) w) ∧ c = mr) := by
  obtain ⟨hW, hla30, htw, hmw, himw, hlw, hrw⟩ := id hF
  have hP3 := hW.1.1
  have hW5 := hW.1.2.1
  have hy99 := hmw.1
  refine z_intro ([.ref 224, .int (nI 5), .int w, zx, zx, zx]) (by decide) rfl (Nat.le_of_ble_eq_true rfl) ?_
  refine e_aload_n 1 dX8_rate_0 rfl rfl ?_
  refine e_iconst 2 hic_0 dX8_rate_1 rfl ?_
  refine e_puti 5 dX8_rate_2 lf_X8_56 rfl rfl rfl rfl rfl (by decide) ?_
  obtain ⟨m1, em, hfr⟩ : ∃ m1, m1 = zp mi 224 0 (nI 0) ∧ ∀ q, q ≠ 224 → m1 q = mi q := ⟨_, rfl, fun q hq => zp_r _ _ _ hq⟩
  have hY := hY.th (k := 0) (v := nI 0) (Or.inl rfl)
  rw [← em] at hY ⊢
  obtain ⟨hd, hlate, htr, ht, hs, him, hl, hw⟩ := id hY
  refine e_iload_n 6 dX8_rate_5 rfl rfl ?_
  refine e_iconst 7 hic_0 dX8_rate_6 rfl ?_
  refine e_iconst 8 hic_5 dX8_rate_7 rfl ?_
  refine c_Sqi 11 dX8_rate_8 (k_X8_inN G (by decide) (by decide)) lm_X8_60 zt_yX8_in rfl rfl rfl (Nat.le_of_ble_eq_true rfl) (Nat.le_of_ble_eq_true rfl) (Nat.le_of_ble_eq_true rfl) (by exact Nat.le_refl _) (by exact Nat.le_refl _) ?_
  refine e_if_eq 22 14 dX8_rate_11 (by decide) rfl (fun h11 => ?_) (fun h11 => ?_)
  · exact absurd ((vR_nI (by decide)).mpr ⟨by decide, by decide⟩) (zB_0 h11)
  · refine e_aload_n 15 dX8_rate_14 rfl rfl ?_
    refine e_iload_n 16 dX8_rate_15 rfl rfl ?_
    refine c_Vqi 19 (ci := 8) dX8_rate_16 (k_X8_isWord G hr hd hW) lm_X8_156 zi_yX8_isWord zs_yX8_isWord rfl rfl (by decide) rfl rfl rfl (Nat.le_of_ble_eq_true rfl) (Nat.le_of_ble_eq_true rfl) (Nat.le_of_ble_eq_true rfl) (by exact Nat.le_refl _) (by exact Nat.le_refl _) ?_
    refine e_if_ne 25 22 dX8_rate_19 (by decide) rfl (fun h19 => ?_) (fun h19 => ?_)
    · have h19 := zB_1 h19
      obtain ⟨ew, hw9⟩ := h19.nat
      have hk6 : sRateOk Λ (nI 5) w := ⟨h19, (vN_nI (by decide)).mpr (by decide)⟩
      have e1 : sRate Λ m (nI 5) w = sRateV Λ m (zK w) 5 := iteP hk6
      have e2 : sRateTr Λ tr (nI 5) w = tr + lN (sRateT 5) := iteP hk6
      rw [e1, e2]
      clear e1 e2 hk6 h19
      generalize zK w = w9 at ew hw9 ⊢
      subst ew
      refine e_aload_n 26 dX8_rate_25 rfl rfl ?_
      refine e_getr 29 dX8_rate_26 lf_X8_32 rfl rfl rfl (by decide) hr.yw ?_
      refine e_iconst 30 hic_4 dX8_rate_29 rfl ?_
      refine e_iload_n 31 dX8_rate_30 rfl rfl ?_
      first | refine e_imulN 32 dX8_rate_31 rfl ?_ | refine e_imul 32 dX8_rate_31 rfl ?_
      refine e_iconst 33 hic_1 dX8_rate_32 rfl ?_
      first | refine e_iaddN 34 dX8_rate_33 rfl ?_ | refine e_iadd 34 dX8_rate_33 rfl ?_
      refine e_iald (v := nI (Λ 3 w9)) 35 dX8_rate_34 rfl rfl (by decide) rfl (by show _ < 40; omega) (hd.2.2.2 w9 hw9 1 (by decide)) ?_
      refine e_istore_n 36 dX8_rate_35 rfl (by decide) (zst1_3 rfl) ?_
      refine e_iload_n 37 dX8_rate_36 rfl rfl ?_
      refine e_aload_n 38 dX8_rate_37 rfl rfl ?_
      refine e_iload_n 39 dX8_rate_38 rfl rfl ?_
      refine e_iconst 40 hic_2 dX8_rate_39 rfl ?_
      refine c_Vqi 43 (ci := 8) dX8_rate_40 (k_X8_mn G hr hd hW hs hmw hw9 (by decide)) lm_X8_169 zi_yX8_mean zs_yX8_mean rfl rfl (by decide) rfl rfl rfl (Nat.le_of_ble_eq_true rfl) (Nat.le_of_ble_eq_true rfl) (Nat.le_of_ble_eq_true rfl) (by exact Nat.le_refl _) (by exact Nat.le_refl _) ?_
      first | refine e_iaddN 44 dX8_rate_43 rfl ?_ | refine e_iadd 44 dX8_rate_43 rfl ?_
      refine e_istore 46 dX8_rate_44 rfl (by decide) (zst1_4 rfl) ?_
      refine e_iload 48 dX8_rate_46 rfl rfl ?_
      refine e_aload_n 49 dX8_rate_48 rfl rfl ?_
      refine e_iload_n 50 dX8_rate_49 rfl rfl ?_
      refine e_iconst 51 hic_1 dX8_rate_50 rfl ?_
      refine c_Vqi 54 (ci := 8) dX8_rate_51 (k_X8_mn G hr hd hW hs hmw hw9 (by decide)) lm_X8_169 zi_yX8_mean zs_yX8_mean rfl rfl (by decide) rfl rfl rfl (Nat.le_of_ble_eq_true rfl) (Nat.le_of_ble_eq_true rfl) (Nat.le_of_ble_eq_true rfl) (by exact Nat.le_refl _) (by exact Nat.le_refl _) ?_
      refine e_isub 55 dX8_rate_54 rfl ?_
      refine e_istore 57 dX8_rate_55 rfl (by decide) (zst1_5 rfl) ?_
      refine e_aload_n 58 dX8_rate_57 rfl rfl ?_
      refine e_dup 59 dX8_rate_58 rfl rfl ?_
      refine e_getl 62 dX8_rate_59 lf_X8_243 rfl rfl rfl (by decide) htr ?_
      refine e_iload_n 63 dX8_rate_62 rfl rfl ?_
      refine e_if_neN 70 66 dX8_rate_63 (by decide) rfl (by decide) (fun h63 => ?_) (fun h63 => ?_)
      · refine e_iload_n 71 dX8_rate_70 rfl rfl ?_
        refine e_iconst 72 hic_1 dX8_rate_71 rfl ?_
        refine e_icmp_neN 81 75 dX8_rate_72 (by decide) rfl (by decide) (by decide) (fun h72 => ?_) (fun h72 => ?_)
        · refine e_iload_n 82 dX8_rate_81 rfl rfl ?_
          refine e_iconst 83 hic_2 dX8_rate_82 rfl ?_
          refine e_icmp_neN 92 86 dX8_rate_83 (by decide) rfl (by decide) (by decide) (fun h83 => ?_) (fun h83 => ?_)
          · refine e_iload_n 93 dX8_rate_92 rfl rfl ?_
            refine e_iconst 94 hic_3 dX8_rate_93 rfl ?_
            refine e_icmp_neN 103 97 dX8_rate_94 (by decide) rfl (by decide) (by decide) (fun h94 => ?_) (fun h94 => ?_)
            · refine e_iload_n 104 dX8_rate_103 rfl rfl ?_
              refine e_iconst 105 hic_4 dX8_rate_104 rfl ?_
              refine e_icmp_neN 114 108 dX8_rate_105 (by decide) rfl (by decide) (by decide) (fun h105 => ?_) (fun h105 => ?_)
              · refine e_ldc2_w 117 lc_X8_255 dX8_rate_114 rfl ?_
                refine e_ladd 118 dX8_rate_117 rfl ?_
                refine e_putl 121 dX8_rate_118 lf_X8_243 rfl rfl rfl rfl rfl (by decide) ?_
                refine e_iload_n 122 dX8_rate_121 rfl rfl ?_
                refine e_if_neN 129 125 dX8_rate_122 (by decide) rfl (by decide) (fun h122 => ?_) (fun h122 => ?_)
                · refine e_iload_n 130 dX8_rate_129 rfl rfl ?_
                  refine e_iconst 131 hic_1 dX8_rate_130 rfl ?_
                  refine e_icmp_neN 145 134 dX8_rate_131 (by decide) rfl (by decide) (by decide) (fun h131 => ?_) (fun h131 => ?_)
                  · refine e_iload_n 146 dX8_rate_145 rfl rfl ?_
                    refine e_iconst 147 hic_2 dX8_rate_146 rfl ?_
                    refine e_icmp_neN 155 150 dX8_rate_147 (by decide) rfl (by decide) (by decide) (fun h147 => ?_) (fun h147 => ?_)
                    · refine e_iload_n 156 dX8_rate_155 rfl rfl ?_
                      refine e_iconst 157 hic_3 dX8_rate_156 rfl ?_
                      refine e_icmp_neN 165 160 dX8_rate_157 (by decide) rfl (by decide) (by decide) (fun h157 => ?_) (fun h157 => ?_)
                      · refine e_iload_n 166 dX8_rate_165 rfl rfl ?_
                        refine e_iconst 167 hic_4 dX8_rate_166 rfl ?_
                        refine e_icmp_neN 177 170 dX8_rate_167 (by decide) rfl (by decide) (by decide) (fun h167 => ?_) (fun h167 => ?_)
                        · refine e_iload_n 178 dX8_rate_177 rfl rfl ?_
                          refine e_aload_n 179 dX8_rate_178 rfl rfl ?_
                          refine e_getr 182 dX8_rate_179 lf_X8_32 rfl rfl rfl (by decide) hr.yw ?_
                          refine e_iconst 183 hic_4 dX8_rate_182 rfl ?_
                          refine e_iload_n 184 dX8_rate_183 rfl rfl ?_
                          first | refine e_imulN 185 dX8_rate_184 rfl ?_ | refine e_imul 185 dX8_rate_184 rfl ?_
                          refine e_iald (v := nI (Λ 2 w9)) 186 dX8_rate_185 rfl rfl (by decide) rfl (by show _ < 40; omega) (hd.2.2.2 w9 hw9 0 (by decide)) ?_
                          first | refine e_iaddN 187 dX8_rate_186 rfl ?_ | refine e_iadd 187 dX8_rate_186 rfl ?_
                          refine e_ireturn .int dX8_rate_187 rfl rfl ?_
                          exact ⟨_, rfl, rfl, hY.tr9 (zp_s _ _ _ _), fun q hq => hfr q (by omega), zTrY.p, rfl⟩
                        · exact absurd h167 (by decide)
                      · exact absurd h157 (by decide)
                    · exact absurd h147 (by decide)
                  · exact absurd h131 (by decide)
                · exact absurd h122 (by decide)
              · exact absurd h105 (by decide)
            · exact absurd h94 (by decide)
          · exact absurd h83 (by decide)
        · exact absurd h72 (by decide)
      · exact absurd h63 (by decide)
    · have h19 := zB_0 h19
      refine e_ldc 24 lc_X8_240 dX8_rate_22 rfl ?_
      refine e_ireturn .int dX8_rate_24 rfl rfl ?_
      have e1 : sRate Λ m (nI 5) w = -1000000 := iteN (fun q => h19 q.1)
      have e2 : sRateTr Λ tr (nI 5) w = tr := iteN (fun q => h19 q.1)
      rw [e1, e2]
      exact ⟨_, rfl, rfl, hY, fun q hq => hfr q (by omega), ⟨htr, fun _ _ => rfl⟩, rfl⟩

set_option maxHeartbeats 4000000 in
set_option maxRecDepth 100000 in
theorem k_X8_rate_d (G : zG) {D E : Nat} {Λ : zLd} {late : Nat} {tr : Int64} {t : zTx} {m : zMo} {im : Nat → Nat × zMo} {l : zLt} {r : zWr} {mi : zFi} {ml : zFl} {mr : zFr} (hr : zRf mr D E) (hY : zY mi ml Λ late tr t m im l r) (hF : zWf Λ late t m im l r) {kind w : Int32} (hbad : ¬ vN kind 6) : zMet G 3 yX8_rate cX8_rate 6 (some .int) [.ref 224, .int kind, .int w] 238 mi ml mr 238 (zPi fun x u b c => x = sRate Λ m kind w ∧ zY u b Λ late (sRateTr Λ tr kind w) t m im l r ∧ (∀ q, q < 224 → u q = mi q) ∧ zTrY ml b (sRateTr Λ tr kind w) ∧ c = mr) := by
  obtain ⟨hW, hla30, htw, hmw, himw, hlw, hrw⟩ := id hF
  have hP3 := hW.1.1
  have hW5 := hW.1.2.1
  have hy99 := hmw.1
  refine z_intro ([.ref 224, .int kind, .int w, zx, zx, zx]) (by decide) rfl (Nat.le_of_ble_eq_true rfl) ?_
  refine e_aload_n 1 dX8_rate_0 rfl rfl ?_
  refine e_iconst 2 hic_0 dX8_rate_1 rfl ?_
  refine e_puti 5 dX8_rate_2 lf_X8_56 rfl rfl rfl rfl rfl (by decide) ?_
  obtain ⟨m1, em, hfr⟩ : ∃ m1, m1 = zp mi 224 0 (nI 0) ∧ ∀ q, q ≠ 224 → m1 q = mi q := ⟨_, rfl, fun q hq => zp_r _ _ _ hq⟩
  have hY := hY.th (k := 0) (v := nI 0) (Or.inl rfl)
  rw [← em] at hY ⊢
  obtain ⟨hd, hlate, htr, ht, hs, him, hl, hw⟩ := id hY
  refine e_iload_n 6 dX8_rate_5 rfl rfl ?_
  refine e_iconst 7 hic_0 dX8_rate_6 rfl ?_
  refine e_iconst 8 hic_5 dX8_rate_7 rfl ?_
  refine c_Sqi 11 dX8_rate_8 (k_X8_inN G (by decide) (by decide)) lm_X8_60 zt_yX8_in rfl rfl rfl (Nat.le_of_ble_eq_true rfl) (Nat.le_of_ble_eq_true rfl) (Nat.le_of_ble_eq_true rfl) (by exact Nat.le_refl _) (by exact Nat.le_refl _) ?_
  refine e_if_eq 22 14 dX8_rate_11 (by decide) rfl (fun h11 => ?_) (fun h11 => ?_)
  · refine e_ldc 24 lc_X8_240 dX8_rate_22 rfl ?_
    refine e_ireturn .int dX8_rate_24 rfl rfl ?_
    have e1 : sRate Λ m kind w = -1000000 := iteN (fun q => hbad q.2)
    have e2 : sRateTr Λ tr kind w = tr := iteN (fun q => hbad q.2)
    rw [e1, e2]
    exact ⟨_, rfl, rfl, hY, fun q hq => hfr q (by omega), ⟨htr, fun _ _ => rfl⟩, rfl⟩
  · exact absurd (vN_vR6.mpr (zB_1 h11)) hbad

set_option maxHeartbeats 4000000 in
set_option maxRecDepth 100000 in
theorem k_X8_rate (G : zG) {D E : Nat} {Λ : zLd} {late : Nat} {tr : Int64} {t : zTx} {m : zMo} {im : Nat → Nat × zMo} {l : zLt} {r : zWr} {mi : zFi} {ml : zFl} {mr : zFr} (hr : zRf mr D E) (hY : zY mi ml Λ late tr t m im l r) (hF : zWf Λ late t m im l r) {kind w : Int32} : zMet G 3 yX8_rate cX8_rate 6 (some .int) [.ref 224, .int kind, .int w] 238 mi ml mr 238 (zPi fun x u b c => x = sRate Λ m kind w ∧ zY u b Λ late (sRateTr Λ tr kind w) t m im l r ∧ (∀ q, q < 224 → u q = mi q) ∧ zTrY ml b (sRateTr Λ tr kind w) ∧ c = mr) := by
  by_cases h : vN kind 6
  · obtain ⟨e, hk⟩ := h.nat
    rw [e]
    have h5 : zK kind = 0 ∨ zK kind = 1 ∨ zK kind = 2 ∨ zK kind = 3 ∨ zK kind = 4 ∨ zK kind = 5 := by omega
    rcases h5 with q | q | q | q | q | q
    · rw [q]; exact k_X8_rate_0 G hr hY hF
    · rw [q]; exact k_X8_rate_1 G hr hY hF
    · rw [q]; exact k_X8_rate_2 G hr hY hF
    · rw [q]; exact k_X8_rate_3 G hr hY hF
    · rw [q]; exact k_X8_rate_4 G hr hY hF
    · rw [q]; exact k_X8_rate_5 G hr hY hF
  · exact k_X8_rate_d G hr hY hF h

/-- k cells of the row are kept as image i -/
def zKpI (m1 u : zFi) (i k : Nat) : Prop := (∀ q, q ≠ 227 → u q = m1 q) ∧ (∀ j, j < k → u 227 (2950 * i + j) = m1 225 j) ∧ ∀ j, (j < 2950 * i ∨ 2950 * i + 2950 ≤ j) → u 227 j = m1 227 j
theorem zKpI.s {m1 u : zFi} {i k : Nat} (hk : k < 2950) (h : zKpI m1 u i k) : zKpI m1 (zp u 227 (2950 * i + k) (m1 225 k)) i (k + 1) := by
  refine ⟨fun q hq => (zp_r _ _ _ hq).trans (h.1 q hq), fun j hj => ?_, fun j hj => ?_⟩
  · by_cases e : j = k
    · rw [e, zp_s]
    · rw [zp_k _ _ (by omega)]; exact h.2.1 j (by omega)
  · rw [zp_k _ _ (by omega)]; exact h.2.2 j hj
theorem zY.kept {m1 u : zFi} {ml : zFl} {Λ : zLd} {late : Nat} {tr : Int64} {t : zTx} {m : zMo} {im : Nat → Nat × zMo} {l : zLt} {r : zWr} {i : Nat} (hF : zWf Λ late t m im l r) (hi : i < 2) (h : zY m1 ml Λ late tr t m im l r) (hk : zKpI m1 u i 2950) : zY (zp u 228 i (nI 1)) ml Λ late tr t m (zu im i (1, m)) l r := by
  obtain ⟨hW, hla30, htw, hmw, himw, hlw, hrw⟩ := hF
  obtain ⟨h1, h2, h3, h4, h5, h6, h7, h8⟩ := h
  have g : ∀ q, q ≠ 227 → q ≠ 228 → zp u 228 i (nI 1) q = m1 q := fun q a b => (zp_r _ _ _ b).trans (hk.1 q a)
  refine ⟨?_, by rw [g 230 (by decide) (by decide)]; exact h2, h3, ?_, by rw [g 225 (by decide) (by decide)]; exact h5, fun j hj => ?_, ?_, ?_⟩
  · unfold zYd; rw [g 224 (by decide) (by decide), g 230 (by decide) (by decide), g 231 (by decide) (by decide), g 232 (by decide) (by decide)]; exact h1
  · unfold zYt; rw [g 224 (by decide) (by decide), g 229 (by decide) (by decide)]; exact h4
  · have e7 : zp u 228 i (nI 1) 227 = u 227 := zp_r _ _ _ (by decide)
    rw [e7]
    by_cases e : j = i
    · rw [e, zu_s, zp_s]
      exact ⟨rfl, fun _ => h5.c hW hmw (fun k hk9 => hk.2.1 k hk9)⟩
    · rw [zu_n _ _ e, zp_k _ _ e, hk.1 228 (by decide)]
      exact ⟨(h6 j hj).1, fun z => ((h6 j hj).2 z).c hW ((himw j hj).2 z) (fun k hk9 => hk.2.2 _ (by omega))⟩
  · unfold zYl; rw [g 224 (by decide) (by decide), g 233 (by decide) (by decide)]; exact h7
  · unfold zYw; rw [g 224 (by decide) (by decide), g 234 (by decide) (by decide)]; exact h8
set_option maxHeartbeats 4000000 in
set_option maxRecDepth 100000 in
theorem l_X8_keep (G : zG) (d : Nat) (Q : zQ) {D E : Nat} {m1 : zFi} {ml : zFl} {mr : zFr} (hr : zRf mr D E) {i : Nat} (hi : i < 2) : ∀ (k k9 : Nat) (u : zFi), k9 + k = 2950 → zKpI m1 u i k9 → (∀ u2, zKpI m1 u2 i 2950 → zE G (zRm (d + 1) 238 238) (zQm G 238 238 Q) yX8_keep.cls yX8_keep.name cX8_keep 3 (some .int) 238 49 [.ref 224, .int (nI i), .int (nI 2950)] [] 238 u2 ml mr) → zE G (zRm (d + 1) 238 238) (zQm G 238 238 Q) yX8_keep.cls yX8_keep.name cX8_keep 3 (some .int) 238 18 [.ref 224, .int (nI i), .int (nI k9)] [] 238 u ml mr := by
  intro k
  induction k with
  | zero =>
    intro k9 u h hI hQ
    refine e_iload_n 19 dX8_keep_18 rfl rfl ?_
    refine e_sipush 22 hsi_2950 dX8_keep_19 rfl ?_
    refine e_icmp_geN 49 25 dX8_keep_22 (by decide) rfl (by omega) (by omega) (fun h22 => ?_) (fun h22 => ?_)
    · have e : k9 = 2950 := by omega
      subst e
      exact hQ u hI
    · exact absurd h22 (by omega)
  | succ k ih =>
    intro k9 u h hI hQ
    refine e_iload_n 19 dX8_keep_18 rfl rfl ?_
    refine e_sipush 22 hsi_2950 dX8_keep_19 rfl ?_
    refine e_icmp_geN 49 25 dX8_keep_22 (by decide) rfl (by omega) (by omega) (fun h22 => ?_) (fun h22 => ?_)
    · exact absurd h22 (by omega)
    · refine e_aload_n 26 dX8_keep_25 rfl rfl ?_
      refine e_getr 29 dX8_keep_26 lf_X8_16 rfl rfl rfl (by decide) hr.yk ?_
      refine e_sipush 32 hsi_2950 dX8_keep_29 rfl ?_
      refine e_iload_n 33 dX8_keep_32 rfl rfl ?_
      first | refine e_imulN 34 dX8_keep_33 rfl ?_ | refine e_imul 34 dX8_keep_33 rfl ?_
      refine e_iload_n 35 dX8_keep_34 rfl rfl ?_
      first | refine e_iaddN 36 dX8_keep_35 rfl ?_ | refine e_iadd 36 dX8_keep_35 rfl ?_
      refine e_aload_n 37 dX8_keep_36 rfl rfl ?_
      refine e_getr 40 dX8_keep_37 lf_X8_7 rfl rfl rfl (by decide) hr.ys ?_
      refine e_iload_n 41 dX8_keep_40 rfl rfl ?_
      refine e_iald 42 dX8_keep_41 rfl rfl (by decide) rfl (by show k9 < 2950; omega) (congrFun (hI.1 225 (by decide)) k9) ?_
      refine e_iast 43 dX8_keep_42 rfl rfl (by decide) rfl (by show 2950 * i + k9 < 5900; omega) ?_
      refine e_iinc 46 dX8_keep_43 rfl (by decide) rfl (z_inc hii_1) (zst1_2 rfl) ?_
      refine e_goto 18 dX8_keep_46 (by decide) ?_
      exact ih (k9 + 1) _ (by omega) (hI.s (by omega)) hQ
set_option maxHeartbeats 4000000 in
set_option maxRecDepth 100000 in
theorem k_X8_keep (G : zG) {D E : Nat} {Λ : zLd} {late : Nat} {tr : Int64} {t : zTx} {m : zMo} {im : Nat → Nat × zMo} {l : zLt} {r : zWr} {mi : zFi} {ml : zFl} {mr : zFr} (hr : zRf mr D E) (hY : zY mi ml Λ late tr t m im l r) (hF : zWf Λ late t m im l r) {i : Int32} : zMet G 1 yX8_keep cX8_keep 3 (some .int) [.ref 224, .int i] 238 mi ml mr 238 (zPi fun x u b c => x = sKeep m i ∧ zY u b Λ late tr t m (sKeepI m im i) l r ∧ (∀ q, q < 224 → u q = mi q) ∧ b = ml ∧ c = mr) := by
  obtain ⟨hW, hla30, htw, hmw, himw, hlw, hrw⟩ := id hF
  have hP3 := hW.1.1
  have hW5 := hW.1.2.1
  have hy99 := hmw.1
  refine z_intro ([.ref 224, .int i, zx]) (by decide) rfl (Nat.le_of_ble_eq_true rfl) ?_
  refine e_aload_n 1 dX8_keep_0 rfl rfl ?_
  refine e_iconst 2 hic_0 dX8_keep_1 rfl ?_
  refine e_puti 5 dX8_keep_2 lf_X8_56 rfl rfl rfl rfl rfl (by decide) ?_
  obtain ⟨m1, em, hfr⟩ : ∃ m1, m1 = zp mi 224 0 (nI 0) ∧ ∀ q, q ≠ 224 → m1 q = mi q := ⟨_, rfl, fun q hq => zp_r _ _ _ hq⟩
  have hY := hY.th (k := 0) (v := nI 0) (Or.inl rfl)
  rw [← em] at hY ⊢
  obtain ⟨hd, hlate, htr, ht, hs, him, hl, hw⟩ := id hY
  refine e_iload_n 6 dX8_keep_5 rfl rfl ?_
  refine e_iconst 7 hic_0 dX8_keep_6 rfl ?_
  refine e_iconst 8 hic_1 dX8_keep_7 rfl ?_
  refine c_Sqi 11 dX8_keep_8 (k_X8_inN G (by decide) (by decide)) lm_X8_60 zt_yX8_in rfl rfl rfl (Nat.le_of_ble_eq_true rfl) (Nat.le_of_ble_eq_true rfl) (Nat.le_of_ble_eq_true rfl) (by exact Nat.le_refl _) (by exact Nat.le_refl _) ?_
  refine e_if_ne 16 14 dX8_keep_11 (by decide) rfl (fun h11 => ?_) (fun h11 => ?_)
  · have h11 := zB_1 h11
    obtain ⟨ei, hi9⟩ := h11.nat
    have e1 : sKeep m i = nI m.1 := iteP h11
    have e2 : sKeepI m im i = zu im (zK i) (1, m) := iteP h11
    rw [e1, e2]
    clear e1 e2 h11
    generalize zK i = i9 at ei hi9 ⊢
    subst ei
    refine e_iconst 17 hic_0 dX8_keep_16 rfl ?_
    refine e_istore_n 18 dX8_keep_17 rfl (by decide) (zst1_2 rfl) ?_
    refine l_X8_keep G 0 _ hr (i := i9) (by omega) 2950 0 m1 rfl ⟨fun _ _ => rfl, fun j hj => absurd hj (Nat.not_lt_zero _), fun _ _ => rfl⟩ (fun u2 hk2 => ?_)
    refine e_aload_n 50 dX8_keep_49 rfl rfl ?_
    refine e_getr 53 dX8_keep_50 lf_X8_19 rfl rfl rfl (by decide) hr.yi ?_
    refine e_iload_n 54 dX8_keep_53 rfl rfl ?_
    refine e_iconst 55 hic_1 dX8_keep_54 rfl ?_
    refine e_zast 56 dX8_keep_55 rfl rfl (by decide) rfl (by show i9 < 2; omega) z_nz1 ?_
    refine e_aload_n 57 dX8_keep_56 rfl rfl ?_
    refine e_getr 60 dX8_keep_57 lf_X8_7 rfl rfl rfl (by decide) hr.ys ?_
    refine e_iconst 61 hic_0 dX8_keep_60 rfl ?_
    refine e_iald (v := nI m.1) 62 dX8_keep_61 rfl rfl (by decide) rfl (by show 0 < 2950; omega) (by rw [zp_r _ _ _ (by decide), hk2.1 225 (by decide)]; exact hs.1) ?_
    refine e_ireturn .int dX8_keep_62 rfl rfl ?_
    exact ⟨_, rfl, rfl, hY.kept hF (by omega) hk2, fun q hq => ((zp_r _ _ _ (by omega)).trans (hk2.1 q (by omega))).trans (hfr q (by omega)), rfl, rfl⟩
  · have h11 := zB_0 h11
    refine e_iconst 15 hic_m1 dX8_keep_14 rfl ?_
    refine e_ireturn .int dX8_keep_15 rfl rfl ?_
    have e1 : sKeep m i = -1 := iteN h11
    have e2 : sKeepI m im i = im := iteN h11
    rw [e1, e2]
    exact ⟨_, rfl, rfl, hY, fun q hq => hfr q (by omega), rfl, rfl⟩

def zBkI (m1 u : zFi) (i k : Nat) : Prop := zFs9 u m1 ∧ ∀ j, j < k → u 225 j = m1 227 (2950 * i + j)
theorem zBkI.s {m1 u : zFi} {i k : Nat} (h : zBkI m1 u i k) : zBkI m1 (zp u 225 k (m1 227 (2950 * i + k))) i (k + 1) := by
  refine ⟨zFs9.p.t h.1, fun j hj => ?_⟩
  by_cases e : j = k
  · rw [e, zp_s]
  · rw [zp_k _ _ e]; exact h.2 j (by omega)
set_option maxHeartbeats 4000000 in
set_option maxRecDepth 100000 in
theorem l_X8_back (G : zG) (d : Nat) (Q : zQ) {D E : Nat} {m1 : zFi} {ml : zFl} {mr : zFr} (hr : zRf mr D E) {i : Nat} (hi : i < 2) : ∀ (k k9 : Nat) (u : zFi), k9 + k = 2950 → zBkI m1 u i k9 → (∀ u2, zBkI m1 u2 i 2950 → zE G (zRm (d + 1) 238 238) (zQm G 238 238 Q) yX8_back.cls yX8_back.name cX8_back 3 (some .int) 238 61 [.ref 224, .int (nI i), .int (nI 2950)] [] 238 u2 ml mr) → zE G (zRm (d + 1) 238 238) (zQm G 238 238 Q) yX8_back.cls yX8_back.name cX8_back 3 (some .int) 238 30 [.ref 224, .int (nI i), .int (nI k9)] [] 238 u ml mr := by
  intro k
  induction k with
  | zero =>
    intro k9 u h hI hQ
    refine e_iload_n 31 dX8_back_30 rfl rfl ?_
    refine e_sipush 34 hsi_2950 dX8_back_31 rfl ?_
    refine e_icmp_geN 61 37 dX8_back_34 (by decide) rfl (by omega) (by omega) (fun h34 => ?_) (fun h34 => ?_)
    · have e : k9 = 2950 := by omega
      subst e
      exact hQ u hI
    · exact absurd h34 (by omega)
  | succ k ih =>
    intro k9 u h hI hQ
    refine e_iload_n 31 dX8_back_30 rfl rfl ?_
    refine e_sipush 34 hsi_2950 dX8_back_31 rfl ?_
    refine e_icmp_geN 61 37 dX8_back_34 (by decide) rfl (by omega) (by omega) (fun h34 => ?_) (fun h34 => ?_)
    · exact absurd h34 (by omega)
    · refine e_aload_n 38 dX8_back_37 rfl rfl ?_
      refine e_getr 41 dX8_back_38 lf_X8_7 rfl rfl rfl (by decide) hr.ys ?_
      refine e_iload_n 42 dX8_back_41 rfl rfl ?_
      refine e_aload_n 43 dX8_back_42 rfl rfl ?_
      refine e_getr 46 dX8_back_43 lf_X8_16 rfl rfl rfl (by decide) hr.yk ?_
      refine e_sipush 49 hsi_2950 dX8_back_46 rfl ?_
      refine e_iload_n 50 dX8_back_49 rfl rfl ?_
      first | refine e_imulN 51 dX8_back_50 rfl ?_ | refine e_imul 51 dX8_back_50 rfl ?_
      refine e_iload_n 52 dX8_back_51 rfl rfl ?_
      first | refine e_iaddN 53 dX8_back_52 rfl ?_ | refine e_iadd 53 dX8_back_52 rfl ?_
      refine e_iald 54 dX8_back_53 rfl rfl (by decide) rfl (by show 2950 * i + k9 < 5900; omega) (congrFun (hI.1 227 (by decide)) (2950 * i + k9)) ?_
      refine e_iast 55 dX8_back_54 rfl rfl (by decide) rfl (by show k9 < 2950; omega) ?_
      refine e_iinc 58 dX8_back_55 rfl (by decide) rfl (z_inc hii_1) (zst1_2 rfl) ?_
      refine e_goto 30 dX8_back_58 (by decide) ?_
      exact ih (k9 + 1) _ (by omega) hI.s hQ
set_option maxHeartbeats 4000000 in
set_option maxRecDepth 100000 in
theorem k_X8_back (G : zG) {D E : Nat} {Λ : zLd} {late : Nat} {tr : Int64} {t : zTx} {m : zMo} {im : Nat → Nat × zMo} {l : zLt} {r : zWr} {mi : zFi} {ml : zFl} {mr : zFr} (hr : zRf mr D E) (hY : zY mi ml Λ late tr t m im l r) (hF : zWf Λ late t m im l r) {i : Int32} : zMet G 1 yX8_back cX8_back 3 (some .int) [.ref 224, .int i] 238 mi ml mr 238 (zPi fun x u b c => x = sBack m im i ∧ zY u b Λ late tr t (sBackM m im i) im l r ∧ (∀ q, q < 224 → u q = mi q) ∧ b = ml ∧ c = mr) := by
  obtain ⟨hW, hla30, htw, hmw, himw, hlw, hrw⟩ := id hF
  have hP3 := hW.1.1
  have hW5 := hW.1.2.1
  have hy99 := hmw.1
  refine z_intro ([.ref 224, .int i, zx]) (by decide) rfl (Nat.le_of_ble_eq_true rfl) ?_
  refine e_aload_n 1 dX8_back_0 rfl rfl ?_
  refine e_iconst 2 hic_0 dX8_back_1 rfl ?_
  refine e_puti 5 dX8_back_2 lf_X8_56 rfl rfl rfl rfl rfl (by decide) ?_
  obtain ⟨m1, em, hfr⟩ : ∃ m1, m1 = zp mi 224 0 (nI 0) ∧ ∀ q, q ≠ 224 → m1 q = mi q := ⟨_, rfl, fun q hq => zp_r _ _ _ hq⟩
  have hY := hY.th (k := 0) (v := nI 0) (Or.inl rfl)
  rw [← em] at hY ⊢
  obtain ⟨hd, hlate, htr, ht, hs, him, hl, hw⟩ := id hY
  refine e_iload_n 6 dX8_back_5 rfl rfl ?_
  refine e_iconst 7 hic_0 dX8_back_6 rfl ?_
  refine e_iconst 8 hic_1 dX8_back_7 rfl ?_
  refine c_Sqi 11 dX8_back_8 (k_X8_inN G (by decide) (by decide)) lm_X8_60 zt_yX8_in rfl rfl rfl (Nat.le_of_ble_eq_true rfl) (Nat.le_of_ble_eq_true rfl) (Nat.le_of_ble_eq_true rfl) (by exact Nat.le_refl _) (by exact Nat.le_refl _) ?_
  refine e_if_ne 16 14 dX8_back_11 (by decide) rfl (fun h11 => ?_) (fun h11 => ?_)
  · have h11 := zB_1 h11
    obtain ⟨ei, hi9⟩ := h11.nat
    have e1 : sBack m im i = (if (im (zK i)).1 = 1 then nI (im (zK i)).2.1 else -2) := iteP h11
    have e2 : sBackM m im i = (if (im (zK i)).1 = 1 then (im (zK i)).2 else m) := iteP h11
    rw [e1, e2]
    clear e1 e2 h11
    generalize zK i = i9 at ei hi9 ⊢
    subst ei
    have him9 := him i9 (by omega)
    have hmi9 := himw i9 (by omega)
    refine e_aload_n 17 dX8_back_16 rfl rfl ?_
    refine e_getr 20 dX8_back_17 lf_X8_19 rfl rfl rfl (by decide) hr.yi ?_
    refine e_iload_n 21 dX8_back_20 rfl rfl ?_
    refine e_zald 22 dX8_back_21 rfl rfl (by decide) rfl (by show i9 < 2; omega) him9.1 ?_
    refine e_if_neN 28 25 dX8_back_22 (by decide) rfl (by omega) (fun h22 => ?_) (fun h22 => ?_)
    · have hk1 : (im i9).1 = 1 := by omega
      rw [if_pos hk1, if_pos hk1]
      refine e_iconst 29 hic_0 dX8_back_28 rfl ?_
      refine e_istore_n 30 dX8_back_29 rfl (by decide) (zst1_2 rfl) ?_
      refine l_X8_back G 0 _ hr (i := i9) (by omega) 2950 0 m1 rfl ⟨zFs9.r m1, fun j hj => absurd hj (Nat.not_lt_zero _)⟩ (fun u2 hk2 => ?_)
      have hsb : zYs (u2 225) Λ (im i9).2 := (him9.2 hk1).c hW (hmi9.2 hk1) (fun k hk => hk2.2 k hk)
      refine e_aload_n 62 dX8_back_61 rfl rfl ?_
      refine e_getr 65 dX8_back_62 lf_X8_7 rfl rfl rfl (by decide) hr.ys ?_
      refine e_iconst 66 hic_0 dX8_back_65 rfl ?_
      refine e_iald (v := nI (im i9).2.1) 67 dX8_back_66 rfl rfl (by decide) rfl (by show 0 < 2950; omega) hsb.1 ?_
      refine e_ireturn .int dX8_back_67 rfl rfl ?_
      exact ⟨_, rfl, rfl, hY.mom hk2.1.v hsb, fun q hq => (hk2.1 q (by omega)).trans (hfr q (by omega)), rfl, rfl⟩
    · rw [if_neg (show ¬ (im i9).1 = 1 by omega), if_neg (show ¬ (im i9).1 = 1 by omega)]
      refine e_bipush 27 hbi_m2 dX8_back_25 rfl ?_
      refine e_ireturn .int dX8_back_27 rfl rfl ?_
      exact ⟨_, rfl, rfl, hY, fun q hq => hfr q (by omega), rfl, rfl⟩
  · have h11 := zB_0 h11
    refine e_iconst 15 hic_m1 dX8_back_14 rfl ?_
    refine e_ireturn .int dX8_back_15 rfl rfl ?_
    have e1 : sBack m im i = -1 := iteN h11
    have e2 : sBackM m im i = m := iteN h11
    rw [e1, e2]
    exact ⟨_, rfl, rfl, hY, fun q hq => hfr q (by omega), rfl, rfl⟩

theorem zYt_p {s : zFi} {t : zTx} {b : Nat} (h : zYt s t) : zYt (zp (zp s 229 t.1 (nI b)) 224 7 (nI (t.1 + 1))) (t.1 + 1, zu t.2 t.1 b) := by
  refine ⟨zp_s _ _ _ _, fun k hk => ?_⟩
  have hk9 : k < t.1 + 1 := hk
  rw [zp_r _ _ _ (by decide)]
  show _ = nI (zu t.2 t.1 b k)
  by_cases e : k = t.1
  · subst e; rw [zp_s, zu_s]
  · rw [zp_k _ _ e, zu_n _ _ e]; exact h.2 k (by omega)
/-- cells but for the text -/
def zTyp (u s : zFi) : Prop := (∀ q, q ≠ 224 → q ≠ 229 → u q = s q) ∧ ∀ k, k ≠ 7 → u 224 k = s 224 k
theorem zTyp.r (s : zFi) : zTyp s s := ⟨fun _ _ _ => rfl, fun _ _ => rfl⟩
theorem zTyp.t {a b c : zFi} (h1 : zTyp a b) (h2 : zTyp b c) : zTyp a c := ⟨fun q x y => (h1.1 q x y).trans (h2.1 q x y), fun k x => (h1.2 k x).trans (h2.2 k x)⟩
theorem zTyp.p {s : zFi} {i : Nat} {v w : Int32} : zTyp (zp (zp s 229 i v) 224 7 w) s := ⟨fun q x y => (zp_r _ _ _ x).trans (zp_r _ _ _ y), fun k x => (zp_k _ _ x).trans (congrFun (zp_r _ _ _ (by decide)) k)⟩
theorem zY.txt {m1 m2 : zFi} {ml : zFl} {Λ : zLd} {late : Nat} {tr : Int64} {t t' : zTx} {m : zMo} {im : Nat → Nat × zMo} {l : zLt} {r : zWr} (h : zY m1 ml Λ late tr t m im l r) (e : zTyp m2 m1) (ht : zYt m2 t') : zY m2 ml Λ late tr t' m im l r := by
  obtain ⟨hd, hlate, htr, -, hs, him, hl, hw⟩ := h
  have g : ∀ q, q ≠ 224 → q ≠ 229 → m2 q = m1 q := e.1
  refine ⟨?_, by rw [g 230 (by decide) (by decide)]; exact hlate, htr, ht, by rw [g 225 (by decide) (by decide)]; exact hs, ?_, ?_, ?_⟩
  · unfold zYd; rw [e.2 16 (by decide), e.2 17 (by decide), g 230 (by decide) (by decide), g 231 (by decide) (by decide), g 232 (by decide) (by decide)]; exact hd
  · unfold zYi; rw [g 227 (by decide) (by decide), g 228 (by decide) (by decide)]; exact him
  · unfold zYl; rw [e.2 23 (by decide), g 233 (by decide) (by decide)]; exact hl
  · unfold zYw; rw [e.2 25 (by decide), g 234 (by decide) (by decide)]; exact hw
set_option maxHeartbeats 4000000 in
set_option maxRecDepth 100000 in
theorem l_X8_type (G : zG) (d : Nat) (Q : zQ) {D E : Nat} {v : Int64} {n9 : Nat} {ml : zFl} {mr : zFr} (hr : zRf mr D E) : ∀ (k : Nat) (t : zTx) (s : zFi), t.1 + (k + 1) ≤ 300 → k < 8 → zYt s t → (∀ u v4, zYt u (zTyF v (k + 1) t) → zTyp u s → zE G (zRm (d + 1) 238 238) (zQm G 238 238 Q) yX8_type.cls yX8_type.name cX8_type 5 (some .int) 238 79 [.ref 224, .long v, zx, .int (nI n9), .int v4] [] 238 u ml mr) → zE G (zRm (d + 1) 238 238) (zQm G 238 238 Q) yX8_type.cls yX8_type.name cX8_type 5 (some .int) 238 37 [.ref 224, .long v, zx, .int (nI n9), .int (nI k)] [] 238 s ml mr := by
  intro k
  induction k with
  | zero =>
    intro t s h hk8 hs hQ
    refine e_iload 39 dX8_type_37 rfl rfl ?_
    refine e_if_lt 79 42 dX8_type_39 (by decide) rfl (fun h39 => ?_) (fun h39 => ?_)
    · exact absurd h39 (nI_nn (by omega))
    · refine e_aload_n 43 dX8_type_42 rfl rfl ?_
      refine e_getr 46 dX8_type_43 lf_X8_23 rfl rfl rfl (by decide) hr.yt ?_
      refine e_aload_n 47 dX8_type_46 rfl rfl ?_
      refine e_geti (v := nI t.1) 50 dX8_type_47 lf_X8_64 rfl rfl rfl (by decide) hs.1 ?_
      refine e_lload_n 51 dX8_type_50 rfl rfl ?_
      refine e_bipush 53 hbi_8 dX8_type_51 rfl ?_
      refine e_iload 55 dX8_type_53 rfl rfl ?_
      first | refine e_imulN 56 dX8_type_55 rfl ?_ | refine e_imul 56 dX8_type_55 rfl ?_
      refine e_lshr 57 dX8_type_56 rfl ?_
      refine e_ldc2_w 60 lc_X8_67 dX8_type_57 rfl ?_
      refine e_land 61 dX8_type_60 rfl ?_
      rw [zBy_s v _ (by omega)]
      refine e_l2i 62 dX8_type_61 rfl ?_
      rw [zBy_i _ (zByte_lt _ _)]
      refine e_iast 63 dX8_type_62 rfl rfl (by decide) rfl (by show t.1 < 300; omega) ?_
      refine e_aload_n 64 dX8_type_63 rfl rfl ?_
      refine e_dup 65 dX8_type_64 rfl rfl ?_
      refine e_geti (v := nI t.1) 68 dX8_type_65 lf_X8_64 rfl rfl rfl (by decide) (by rw [zp_r _ _ _ (by decide)]; exact hs.1) ?_
      refine e_iconst 69 hic_1 dX8_type_68 rfl ?_
      first | refine e_iaddN 70 dX8_type_69 rfl ?_ | refine e_iadd 70 dX8_type_69 rfl ?_
      refine e_puti 73 dX8_type_70 lf_X8_64 rfl rfl rfl rfl rfl (by decide) ?_
      refine e_iinc 76 dX8_type_73 rfl (by decide) rfl rfl (zst1_4 rfl) ?_
      refine e_goto 37 dX8_type_76 (by decide) ?_
      refine e_iload 39 dX8_type_37 rfl rfl ?_
      refine e_if_lt 79 42 dX8_type_39 (by decide) rfl (fun h39 => ?_) (fun h39 => ?_)
      · exact hQ _ _ (zYt_p hs) zTyp.p
      · exact absurd (show nI 0 + Int32.ofInt (-1) < 0 by decide) h39
  | succ k ih =>
    intro t s h hk8 hs hQ
    refine e_iload 39 dX8_type_37 rfl rfl ?_
    refine e_if_lt 79 42 dX8_type_39 (by decide) rfl (fun h39 => ?_) (fun h39 => ?_)
    · exact absurd h39 (nI_nn (by omega))
    · refine e_aload_n 43 dX8_type_42 rfl rfl ?_
      refine e_getr 46 dX8_type_43 lf_X8_23 rfl rfl rfl (by decide) hr.yt ?_
      refine e_aload_n 47 dX8_type_46 rfl rfl ?_
      refine e_geti (v := nI t.1) 50 dX8_type_47 lf_X8_64 rfl rfl rfl (by decide) hs.1 ?_
      refine e_lload_n 51 dX8_type_50 rfl rfl ?_
      refine e_bipush 53 hbi_8 dX8_type_51 rfl ?_
      refine e_iload 55 dX8_type_53 rfl rfl ?_
      first | refine e_imulN 56 dX8_type_55 rfl ?_ | refine e_imul 56 dX8_type_55 rfl ?_
      refine e_lshr 57 dX8_type_56 rfl ?_
      refine e_ldc2_w 60 lc_X8_67 dX8_type_57 rfl ?_
      refine e_land 61 dX8_type_60 rfl ?_
      rw [zBy_s v _ (by omega)]
      refine e_l2i 62 dX8_type_61 rfl ?_
      rw [zBy_i _ (zByte_lt _ _)]
      refine e_iast 63 dX8_type_62 rfl rfl (by decide) rfl (by show t.1 < 300; omega) ?_
      refine e_aload_n 64 dX8_type_63 rfl rfl ?_
      refine e_dup 65 dX8_type_64 rfl rfl ?_
      refine e_geti (v := nI t.1) 68 dX8_type_65 lf_X8_64 rfl rfl rfl (by decide) (by rw [zp_r _ _ _ (by decide)]; exact hs.1) ?_
      refine e_iconst 69 hic_1 dX8_type_68 rfl ?_
      first | refine e_iaddN 70 dX8_type_69 rfl ?_ | refine e_iadd 70 dX8_type_69 rfl ?_
      refine e_puti 73 dX8_type_70 lf_X8_64 rfl rfl rfl rfl rfl (by decide) ?_
      refine e_iinc 76 dX8_type_73 rfl (by decide) rfl (z_dec (by omega)) (zst1_4 rfl) ?_
      refine e_goto 37 dX8_type_76 (by decide) ?_
      exact ih _ _ (by show t.1 + 1 + (k + 1) ≤ 300; omega) (by omega) (zYt_p hs) (fun u v4 g1 g2 => hQ u v4 g1 (g2.t zTyp.p))
set_option maxHeartbeats 4000000 in
set_option maxRecDepth 100000 in
theorem k_X8_type (G : zG) {D E : Nat} {Λ : zLd} {late : Nat} {tr : Int64} {t : zTx} {m : zMo} {im : Nat → Nat × zMo} {l : zLt} {r : zWr} {mi : zFi} {ml : zFl} {mr : zFr} (hr : zRf mr D E) (hY : zY mi ml Λ late tr t m im l r) (hF : zWf Λ late t m im l r) {v : Int64} {n : Int32} : zMet G 1 yX8_type cX8_type 5 (some .int) [.ref 224, .long v, .int n] 238 mi ml mr 238 (zPi fun x u b c => x = sType t n ∧ zY u b Λ late tr (sTypeT t v n) m im l r ∧ (∀ q, q < 224 → u q = mi q) ∧ b = ml ∧ c = mr) := by
  obtain ⟨hW, hla30, htw, hmw, himw, hlw, hrw⟩ := id hF
  have hP3 := hW.1.1
  have hW5 := hW.1.2.1
  have hy99 := hmw.1
  refine z_intro ([.ref 224, .long v, zx, .int n, zx]) (by decide) rfl (Nat.le_of_ble_eq_true rfl) ?_
  refine e_aload_n 1 dX8_type_0 rfl rfl ?_
  refine e_iconst 2 hic_0 dX8_type_1 rfl ?_
  refine e_puti 5 dX8_type_2 lf_X8_56 rfl rfl rfl rfl rfl (by decide) ?_
  obtain ⟨m1, em, hfr⟩ : ∃ m1, m1 = zp mi 224 0 (nI 0) ∧ ∀ q, q ≠ 224 → m1 q = mi q := ⟨_, rfl, fun q hq => zp_r _ _ _ hq⟩
  have hY := hY.th (k := 0) (v := nI 0) (Or.inl rfl)
  rw [← em] at hY ⊢
  obtain ⟨hd, hlate, htr, ht, hs, him, hl, hw⟩ := id hY
  refine e_iload_n 6 dX8_type_5 rfl rfl ?_
  refine e_iconst 7 hic_1 dX8_type_6 rfl ?_
  refine e_bipush 9 hbi_8 dX8_type_7 rfl ?_
  refine c_Sqi 12 dX8_type_9 (k_X8_inN G (by decide) (by decide)) lm_X8_60 zt_yX8_in rfl rfl rfl (Nat.le_of_ble_eq_true rfl) (Nat.le_of_ble_eq_true rfl) (Nat.le_of_ble_eq_true rfl) (by exact Nat.le_refl _) (by exact Nat.le_refl _) ?_
  refine e_if_ne 17 15 dX8_type_12 (by decide) rfl (fun h12 => ?_) (fun h12 => ?_)
  · have h12 := zB_1 h12
    obtain ⟨en, hn9⟩ := h12.nat
    have e1 : sType t n = (if t.1 + zK n ≤ 300 then nI (t.1 + zK n) else -3) := iteP h12
    have e2 : sTypeT t v n = (if t.1 + zK n ≤ 300 then zTyF v (zK n) t else t) := iteP h12
    rw [e1, e2]
    clear e1 e2 h12
    generalize zK n = n8 at en hn9 ⊢
    subst en
    have htw1 := htw.1
    refine e_aload_n 18 dX8_type_17 rfl rfl ?_
    refine e_geti (v := nI t.1) 21 dX8_type_18 lf_X8_64 rfl rfl rfl (by decide) ht.1 ?_
    refine e_iload_n 22 dX8_type_21 rfl rfl ?_
    first | refine e_iaddN 23 dX8_type_22 rfl ?_ | refine e_iadd 23 dX8_type_22 rfl ?_
    refine e_sipush 26 hsi_300 dX8_type_23 rfl ?_
    refine e_icmp_leN 32 29 dX8_type_26 (by decide) rfl (by omega) (by omega) (fun h26 => ?_) (fun h26 => ?_)
    · rw [if_pos h26, if_pos h26]
      refine e_iload_n 33 dX8_type_32 rfl rfl ?_
      refine e_iconst 34 hic_1 dX8_type_33 rfl ?_
      first | refine e_isubN 35 dX8_type_34 rfl (by omega) ?_ | refine e_isub 35 dX8_type_34 rfl ?_
      refine e_istore 37 dX8_type_35 rfl (by decide) (zst1_4 rfl) ?_
      have en : n8 - 1 + 1 = n8 := by omega
      refine l_X8_type G 0 _ hr (n8 - 1) t m1 (by omega) (by omega) ht (fun u v4 g1 g2 => ?_)
      rw [en] at g1
      refine e_aload_n 80 dX8_type_79 rfl rfl ?_
      refine e_geti (v := nI (t.1 + n8)) 83 dX8_type_80 lf_X8_64 rfl rfl rfl (by decide) (by rw [g1.1, zTyF_1]) ?_
      refine e_ireturn .int dX8_type_83 rfl rfl ?_
      exact ⟨_, rfl, rfl, hY.txt g2 g1, fun q hq => (g2.1 q (by omega) (by omega)).trans (hfr q (by omega)), rfl, rfl⟩
    · rw [if_neg (by omega), if_neg (by omega)]
      refine e_bipush 31 hbi_m3 dX8_type_29 rfl ?_
      refine e_ireturn .int dX8_type_31 rfl rfl ?_
      exact ⟨_, rfl, rfl, hY, fun q hq => hfr q (by omega), rfl, rfl⟩
  · have h12 := zB_0 h12
    refine e_iconst 16 hic_m1 dX8_type_15 rfl ?_
    refine e_ireturn .int dX8_type_16 rfl rfl ?_
    have e1 : sType t n = -1 := iteN h12
    have e2 : sTypeT t v n = t := iteN h12
    rw [e1, e2]
    exact ⟨_, rfl, rfl, hY, fun q hq => hfr q (by omega), rfl, rfl⟩

