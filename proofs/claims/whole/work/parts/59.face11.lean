theorem zIor_0 (x : Int32) : x ||| nI 0 = x := by
  rw [show nI 0 = (0 : Int32) from rfl]
  exact Int32.or_zero
set_option maxHeartbeats 4000000 in
set_option maxRecDepth 100000 in
theorem l_X8_could (G : zG) (d : Nat) (Q : zQ) {D E : Nat} {Λ : zLd} {mi : zFi} {ml : zFl} {mr : zFr} (hr : zRf mr D E) (hd : zYd mi Λ) (hW5 : Λ 0 1 ≤ 5) {b a p : Nat} (g0 : mi 233 0 = nI b) (g2 : mi 233 2 = nI a) (g3 : mi 233 3 = nI p) (ha : 10 ≤ a) (ha2 : a ≤ 69) (hp : p < 3) {f : Nat → Nat} (hf : ∀ w, w < Λ 0 1 → mi 225 (zAt w p a) = nI (f w)) (hle : ∀ w, w < Λ 0 1 → f w ≤ 1000) : ∀ (k w : Nat) (acc : Int32), w + k = Λ 0 1 → zE G (zRm (d + 7) 238 238) (zQm G 238 238 Q) yX8_could.cls yX8_could.name cX8_could 3 (some .int) 238 96 [.ref 224, .int (zFo (zCouldSt (nI b) f) k w acc), .int (nI (Λ 0 1))] [] 238 mi ml mr → zE G (zRm (d + 7) 238 238) (zQm G 238 238 Q) yX8_could.cls yX8_could.name cX8_could 3 (some .int) 238 34 [.ref 224, .int acc, .int (nI w)] [] 238 mi ml mr := by
  intro k
  induction k with
  | zero =>
    intro w acc h hQ
    refine e_iload_n 35 dX8_could_34 rfl rfl ?_
    refine e_aload_n 36 dX8_could_35 rfl rfl ?_
    refine e_geti 39 dX8_could_36 lf_X8_141 rfl rfl rfl (by decide) hd.1.2 ?_
    refine e_icmp_geN 96 42 dX8_could_39 (by decide) rfl (by omega) (by omega) (fun h39 => ?_) (fun h39 => ?_)
    · have e : w = Λ 0 1 := by omega
      subst e
      exact hQ
    · exact absurd h39 (by omega)
  | succ k ih =>
    intro w acc h hQ
    refine e_iload_n 35 dX8_could_34 rfl rfl ?_
    refine e_aload_n 36 dX8_could_35 rfl rfl ?_
    refine e_geti 39 dX8_could_36 lf_X8_141 rfl rfl rfl (by decide) hd.1.2 ?_
    refine e_icmp_geN 96 42 dX8_could_39 (by decide) rfl (by omega) (by omega) (fun h39 => ?_) (fun h39 => ?_)
    · exact absurd h39 (by omega)
    · refine e_iload_n 43 dX8_could_42 rfl rfl ?_
      refine e_aload_n 44 dX8_could_43 rfl rfl ?_
      refine e_getr 47 dX8_could_44 lf_X8_35 rfl rfl rfl (by decide) hr.yle ?_
      refine e_iconst 48 hic_0 dX8_could_47 rfl ?_
      refine e_iald 49 dX8_could_48 rfl rfl (by decide) rfl (by show 0 < 4; decide) g0 ?_
      refine e_iload_n 50 dX8_could_49 rfl rfl ?_
      refine e_ishr 51 dX8_could_50 rfl ?_
      refine e_iconst 52 hic_1 dX8_could_51 rfl ?_
      refine e_iand 53 dX8_could_52 rfl ?_
      refine e_iconst 54 hic_1 dX8_could_53 rfl ?_
      refine e_icmp_ne 87 57 dX8_could_54 (by decide) rfl (fun h54 => ?_) (fun h54 => ?_)
      · refine e_iconst 88 hic_0 dX8_could_87 rfl ?_
        refine e_ior 89 dX8_could_88 rfl ?_
        refine e_istore_n 90 dX8_could_89 rfl (by decide) (zst1_1 rfl) ?_
        refine e_iinc 93 dX8_could_90 rfl (by decide) rfl (z_inc hii_1) (zst1_2 rfl) ?_
        refine e_goto 34 dX8_could_93 (by decide) ?_
        rw [zFo_s] at hQ
        first
          | (rw [show zCouldSt (nI b) f w acc = acc from iteN h54] at hQ; rw [zIor_0]; exact ih (w + 1) acc (by omega) hQ)
          | (rw [show zCouldSt (nI b) f w acc = acc from (iteP h54).trans (if_neg (by omega))] at hQ; rw [zIor_0]; exact ih (w + 1) acc (by omega) hQ)
          | (rw [show zCouldSt (nI b) f w acc = acc ||| (nI 1 <<< (nI w &&& 31)) from (iteP h54).trans (if_pos (by omega))] at hQ; exact ih (w + 1) _ (by omega) hQ)
      · refine e_aload_n 58 dX8_could_57 rfl rfl ?_
        refine e_getr 61 dX8_could_58 lf_X8_7 rfl rfl rfl (by decide) hr.ys ?_
        refine e_iload_n 62 dX8_could_61 rfl rfl ?_
        refine e_aload_n 63 dX8_could_62 rfl rfl ?_
        refine e_getr 66 dX8_could_63 lf_X8_35 rfl rfl rfl (by decide) hr.yle ?_
        refine e_iconst 67 hic_3 dX8_could_66 rfl ?_
        refine e_iald 68 dX8_could_67 rfl rfl (by decide) rfl (by show 3 < 4; decide) g3 ?_
        refine e_aload_n 69 dX8_could_68 rfl rfl ?_
        refine e_getr 72 dX8_could_69 lf_X8_35 rfl rfl rfl (by decide) hr.yle ?_
        refine e_iconst 73 hic_2 dX8_could_72 rfl ?_
        refine e_iald 74 dX8_could_73 rfl rfl (by decide) rfl (by show 2 < 4; decide) g2 ?_
        refine c_Sqi 77 dX8_could_74 (k_X8_at G) lm_X8_162 zt_yX8_at rfl rfl rfl (Nat.le_of_ble_eq_true rfl) (Nat.le_of_ble_eq_true rfl) (Nat.le_of_ble_eq_true rfl) (by exact Nat.le_refl _) (by exact Nat.le_refl _) ?_
        refine e_iald 78 dX8_could_77 rfl rfl (by decide) rfl (by show zAt w p a < 2950; unfold zAt; omega) (hf w h39) ?_
        refine e_if_neN 87 81 dX8_could_78 (by decide) rfl (by have := hle w h39; omega) (fun h78 => ?_) (fun h78 => ?_)
        · refine e_iconst 88 hic_0 dX8_could_87 rfl ?_
          refine e_ior 89 dX8_could_88 rfl ?_
          refine e_istore_n 90 dX8_could_89 rfl (by decide) (zst1_1 rfl) ?_
          refine e_iinc 93 dX8_could_90 rfl (by decide) rfl (z_inc hii_1) (zst1_2 rfl) ?_
          refine e_goto 34 dX8_could_93 (by decide) ?_
          rw [zFo_s] at hQ
          first
            | (rw [show zCouldSt (nI b) f w acc = acc from iteN h54] at hQ; rw [zIor_0]; exact ih (w + 1) acc (by omega) hQ)
            | (rw [show zCouldSt (nI b) f w acc = acc from (iteP h54).trans (if_neg (by omega))] at hQ; rw [zIor_0]; exact ih (w + 1) acc (by omega) hQ)
            | (rw [show zCouldSt (nI b) f w acc = acc ||| (nI 1 <<< (nI w &&& 31)) from (iteP h54).trans (if_pos (by omega))] at hQ; exact ih (w + 1) _ (by omega) hQ)
        · refine e_iconst 82 hic_1 dX8_could_81 rfl ?_
          refine e_iload_n 83 dX8_could_82 rfl rfl ?_
          refine e_ishl 84 dX8_could_83 rfl ?_
          refine e_goto 88 dX8_could_84 (by decide) ?_
          refine e_ior 89 dX8_could_88 rfl ?_
          refine e_istore_n 90 dX8_could_89 rfl (by decide) (zst1_1 rfl) ?_
          refine e_iinc 93 dX8_could_90 rfl (by decide) rfl (z_inc hii_1) (zst1_2 rfl) ?_
          refine e_goto 34 dX8_could_93 (by decide) ?_
          rw [zFo_s] at hQ
          first
            | (rw [show zCouldSt (nI b) f w acc = acc from iteN h54] at hQ; rw [zIor_0]; exact ih (w + 1) acc (by omega) hQ)
            | (rw [show zCouldSt (nI b) f w acc = acc from (iteP h54).trans (if_neg (by omega))] at hQ; rw [zIor_0]; exact ih (w + 1) acc (by omega) hQ)
            | (rw [show zCouldSt (nI b) f w acc = acc ||| (nI 1 <<< (nI w &&& 31)) from (iteP h54).trans (if_pos (by omega))] at hQ; exact ih (w + 1) _ (by omega) hQ)
set_option maxHeartbeats 4000000 in
set_option maxRecDepth 100000 in
theorem k_X8_could (G : zG) {D E : Nat} {Λ : zLd} {late : Nat} {tr : Int64} {t : zTx} {m : zMo} {im : Nat → Nat × zMo} {l : zLt} {r : zWr} {mi : zFi} {ml : zFl} {mr : zFr} (hr : zRf mr D E) (hY : zY mi ml Λ late tr t m im l r) (hF : zWf Λ late t m im l r)  : zMet G 7 yX8_could cX8_could 3 (some .int) [.ref 224] 238 mi ml mr 238 (zPi fun x u b c => x = sCould Λ m l ∧ zY u b Λ late tr t m im l r ∧ (∀ q, q < 224 → u q = mi q) ∧ b = ml ∧ c = mr) := by
  obtain ⟨hW, hla30, htw, hmw, himw, hlw, hrw⟩ := id hF
  have hP3 := hW.1.1
  have hW5 := hW.1.2.1
  have hy99 := hmw.1
  refine z_intro ([.ref 224, zx, zx]) (by decide) rfl (Nat.le_of_ble_eq_true rfl) ?_
  refine e_aload_n 1 dX8_could_0 rfl rfl ?_
  refine e_iconst 2 hic_0 dX8_could_1 rfl ?_
  refine e_puti 5 dX8_could_2 lf_X8_56 rfl rfl rfl rfl rfl (by decide) ?_
  obtain ⟨m1, em, hfr⟩ : ∃ m1, m1 = zp mi 224 0 (nI 0) ∧ ∀ q, q ≠ 224 → m1 q = mi q := ⟨_, rfl, fun q hq => zp_r _ _ _ hq⟩
  have hY := hY.th (k := 0) (v := nI 0) (Or.inl rfl)
  rw [← em] at hY ⊢
  obtain ⟨hd, hlate, htr, ht, hs, him, hl, hw⟩ := id hY
  refine e_aload_n 6 dX8_could_5 rfl rfl ?_
  refine c_Vqi 9 (ci := 8) dX8_could_6 (k_X8_isLetterTold G hr hY hF) lm_X8_227 zi_yX8_isLetterTold zs_yX8_isLetterTold rfl rfl (by decide) rfl rfl rfl (Nat.le_of_ble_eq_true rfl) (Nat.le_of_ble_eq_true rfl) (Nat.le_of_ble_eq_true rfl) (by exact Nat.le_refl _) (by exact Nat.le_refl _) ?_
  refine e_if_ne 15 12 dX8_could_9 (by decide) rfl (fun h9 => ?_) (fun h9 => ?_)
  · have h9 := zB_1 h9
    have hl9 := h9.1
    have hb9 := hlw.2 hl9
    refine e_aload_n 16 dX8_could_15 rfl rfl ?_
    refine e_iconst 17 hic_1 dX8_could_16 rfl ?_
    refine c_Vv 20 (ci := 8) dX8_could_17 (k_X8_asideA G hr) lm_X8_230 zi_yX8_aside zs_yX8_aside rfl rfl (by decide) rfl rfl rfl (Nat.le_of_ble_eq_true rfl) (Nat.le_of_ble_eq_true rfl) (Nat.le_of_ble_eq_true rfl) (by exact Nat.le_refl _) (by exact Nat.le_refl _) ?_
    rintro u1 _ _ ⟨f1, e1, rfl, rfl⟩
    have hY0 := hY
    have hs0 := hs
    have hY := hY.mz (zFrz.a f1) (by rw [f1 225 (by decide)]; exact hs)
    obtain ⟨hd, hlate, htr, ht, hs, him, hl, hw⟩ := id hY
    refine e_aload_n 21 dX8_could_20 rfl rfl ?_
    refine e_aload_n 22 dX8_could_21 rfl rfl ?_
    refine e_getr 25 dX8_could_22 lf_X8_35 rfl rfl rfl (by decide) hr.yle ?_
    refine e_iconst 26 hic_1 dX8_could_25 rfl ?_
    refine e_iald 27 dX8_could_26 rfl rfl (by decide) rfl (by show 1 < 4; decide) (hl.2 hl9).2.1 ?_
    refine c_Vv 30 (ci := 8) dX8_could_27 (k_X8_goesTo G hr hd hW hmw.2.1 hb9.2.1 hs.2.2.1 hs.2.1) lm_X8_234 zi_yX8_goesTo zs_yX8_goesTo rfl rfl (by decide) rfl rfl rfl (Nat.le_of_ble_eq_true rfl) (Nat.le_of_ble_eq_true rfl) (Nat.le_of_ble_eq_true rfl) (by exact Nat.le_refl _) (by exact Nat.le_refl _) ?_
    rintro u2 _ _ ⟨f2, s2, rfl, rfl⟩
    have hY := hY.mom f2 s2
    obtain ⟨hd, hlate, htr, ht, hs, him, hl, hw⟩ := id hY
    have f12 := f2.z.t (zFrz.a f1)
    have e12 : ∀ k, k < 2950 → u2 226 k = m1 225 k := fun k hk => (congrFun (f2 226 (by decide) (by decide) (by decide) (by decide)) k).trans (e1 k hk)
    refine e_iconst 31 hic_0 dX8_could_30 rfl ?_
    refine e_istore_n 32 dX8_could_31 rfl (by decide) (zst1_1 rfl) ?_
    refine e_iconst 33 hic_0 dX8_could_32 rfl ?_
    refine e_istore_n 34 dX8_could_33 rfl (by decide) (zst1_2 rfl) ?_
    refine l_X8_could G 0 _ hr hd hW5 (hl.2 hl9).1 (hl.2 hl9).2.2.1 (hl.2 hl9).2.2.2 hb9.2.2.1 hb9.2.2.2.1 (by omega) (f := zWrote Λ m l) (fun w hw => (hs.2.2.2 w hw).1 _ hb9.2.2.2.2 _ hb9.2.2.1 hb9.2.2.2.1) (fun w _ => zWrote_le hF hl9 w) (Λ 0 1) 0 (nI 0) (by omega) ?_
    refine e_aload_n 97 dX8_could_96 rfl rfl ?_
    refine e_iconst 98 hic_0 dX8_could_97 rfl ?_
    refine c_Vv 101 (ci := 8) dX8_could_98 (k_X8_asideB G hr) lm_X8_230 zi_yX8_aside zs_yX8_aside rfl rfl (by decide) rfl rfl rfl (Nat.le_of_ble_eq_true rfl) (Nat.le_of_ble_eq_true rfl) (Nat.le_of_ble_eq_true rfl) (by exact Nat.le_refl _) (by exact Nat.le_refl _) ?_
    rintro u3 _ _ ⟨f3, e3, rfl, rfl⟩
    have hY := hY0.mz ((zFrz.b f3).t f12) (hs0.c hW hmw (fun k hk => (e3 k hk).trans (e12 k hk)))
    obtain ⟨hd, hlate, htr, ht, hs, him, hl, hw⟩ := id hY
    have hfr3 : ∀ q, q < 224 → u3 q = mi q := fun q hq => (((zFrz.b f3).t f12).lo hq).trans (hfr q (by omega))
    refine e_iload_n 102 dX8_could_101 rfl rfl ?_
    refine e_ireturn .int dX8_could_102 rfl rfl ?_
    exact ⟨_, rfl, (iteP h9).symm, hY, hfr3, rfl, rfl⟩
  · have h9 := zB_0 h9
    refine e_bipush 14 hbi_m2 dX8_could_12 rfl ?_
    refine e_ireturn .int dX8_could_14 rfl rfl ?_
    exact ⟨_, rfl, (iteN h9).symm, hY, fun q hq => hfr q (by omega), rfl, rfl⟩

set_option maxHeartbeats 4000000 in
set_option maxRecDepth 100000 in
theorem k_X8_forged (G : zG) {D E : Nat} {Λ : zLd} {late : Nat} {tr : Int64} {t : zTx} {m : zMo} {im : Nat → Nat × zMo} {l : zLt} {r : zWr} {mi : zFi} {ml : zFl} {mr : zFr} (hr : zRf mr D E) (hY : zY mi ml Λ late tr t m im l r) (hF : zWf Λ late t m im l r) {b q f what : Int32} : zMet G 7 yX8_forged cX8_forged 9 (some .long) [.ref 224, .int b, .int q, .int f, .int what] 238 mi ml mr 238 (zPl fun x u b' c => x = sForged Λ m l b q f what ∧ zY u b' Λ late tr t m im l r ∧ (∀ q, q < 224 → u q = mi q) ∧ b' = ml ∧ c = mr) := by
  obtain ⟨hW, hla30, htw, hmw, himw, hlw, hrw⟩ := id hF
  have hP3 := hW.1.1
  have hW5 := hW.1.2.1
  have hy99 := hmw.1
  refine z_intro ([.ref 224, .int b, .int q, .int f, .int what, zx, zx, zx, zx]) (by decide) rfl (Nat.le_of_ble_eq_true rfl) ?_
  refine e_aload_n 1 dX8_forged_0 rfl rfl ?_
  refine e_iconst 2 hic_0 dX8_forged_1 rfl ?_
  refine e_puti 5 dX8_forged_2 lf_X8_56 rfl rfl rfl rfl rfl (by decide) ?_
  obtain ⟨m1, em, hfr⟩ : ∃ m1, m1 = zp mi 224 0 (nI 0) ∧ ∀ q, q ≠ 224 → m1 q = mi q := ⟨_, rfl, fun q hq => zp_r _ _ _ hq⟩
  have hY := hY.th (k := 0) (v := nI 0) (Or.inl rfl)
  rw [← em] at hY ⊢
  obtain ⟨hd, hlate, htr, ht, hs, him, hl, hw⟩ := id hY
  refine e_iload_n 6 dX8_forged_5 rfl rfl ?_
  refine c_Sqi 9 dX8_forged_6 (k_X8_isAge G) lm_X8_190 zt_yX8_isAge rfl rfl rfl (Nat.le_of_ble_eq_true rfl) (Nat.le_of_ble_eq_true rfl) (Nat.le_of_ble_eq_true rfl) (by exact Nat.le_refl _) (by exact Nat.le_refl _) ?_
  refine e_if_eq 40 12 dX8_forged_9 (by decide) rfl (fun h9 => ?_) (fun h9 => ?_)
  · have h9 := zB_0 h9
    refine e_ldc2_w 43 lc_X8_216 dX8_forged_40 rfl ?_
    refine e_lreturn dX8_forged_43 rfl ?_
    exact ⟨_, rfl, (iteN (fun z => by first | exact h9 z.1 | exact h17 z.2.1 | exact h27 z.2.2.1 | exact h37 z.2.2.2)).symm, hY, fun q hq => hfr q (by omega), rfl, rfl⟩
  · have h9 := zB_1 h9
    obtain ⟨eb, hb9⟩ := h9.nat
    refine e_aload_n 13 dX8_forged_12 rfl rfl ?_
    refine e_iload_n 14 dX8_forged_13 rfl rfl ?_
    refine c_Vqi 17 (ci := 8) dX8_forged_14 (k_X8_isPlace G hr hd hW) lm_X8_153 zi_yX8_isPlace zs_yX8_isPlace rfl rfl (by decide) rfl rfl rfl (Nat.le_of_ble_eq_true rfl) (Nat.le_of_ble_eq_true rfl) (Nat.le_of_ble_eq_true rfl) (by exact Nat.le_refl _) (by exact Nat.le_refl _) ?_
    refine e_if_eq 40 20 dX8_forged_17 (by decide) rfl (fun h17 => ?_) (fun h17 => ?_)
    · have h17 := zB_0 h17
      refine e_ldc2_w 43 lc_X8_216 dX8_forged_40 rfl ?_
      refine e_lreturn dX8_forged_43 rfl ?_
      exact ⟨_, rfl, (iteN (fun z => by first | exact h9 z.1 | exact h17 z.2.1 | exact h27 z.2.2.1 | exact h37 z.2.2.2)).symm, hY, fun q hq => hfr q (by omega), rfl, rfl⟩
    · have h17 := zB_1 h17
      obtain ⟨eq, hq9⟩ := h17.nat
      refine e_iload_n 21 dX8_forged_20 rfl rfl ?_
      refine e_iconst 22 hic_0 dX8_forged_21 rfl ?_
      refine e_bipush 24 hbi_10 dX8_forged_22 rfl ?_
      refine c_Sqi 27 dX8_forged_24 (k_X8_inN G (by decide) (by decide)) lm_X8_60 zt_yX8_in rfl rfl rfl (Nat.le_of_ble_eq_true rfl) (Nat.le_of_ble_eq_true rfl) (Nat.le_of_ble_eq_true rfl) (by exact Nat.le_refl _) (by exact Nat.le_refl _) ?_
      refine e_if_eq 40 30 dX8_forged_27 (by decide) rfl (fun h27 => ?_) (fun h27 => ?_)
      · have h27 := zB_0 h27
        refine e_ldc2_w 43 lc_X8_216 dX8_forged_40 rfl ?_
        refine e_lreturn dX8_forged_43 rfl ?_
        exact ⟨_, rfl, (iteN (fun z => by first | exact h9 z.1 | exact h17 z.2.1 | exact h27 z.2.2.1 | exact h37 z.2.2.2)).symm, hY, fun q hq => hfr q (by omega), rfl, rfl⟩
      · have h27 := zB_1 h27
        obtain ⟨ef, hf9⟩ := h27.nat
        refine e_iload 32 dX8_forged_30 rfl rfl ?_
        refine e_iconst 33 hic_0 dX8_forged_32 rfl ?_
        refine e_iconst 34 hic_1 dX8_forged_33 rfl ?_
        refine c_Sqi 37 dX8_forged_34 (k_X8_inN G (by decide) (by decide)) lm_X8_60 zt_yX8_in rfl rfl rfl (Nat.le_of_ble_eq_true rfl) (Nat.le_of_ble_eq_true rfl) (Nat.le_of_ble_eq_true rfl) (by exact Nat.le_refl _) (by exact Nat.le_refl _) ?_
        refine e_if_ne 44 40 dX8_forged_37 (by decide) rfl (fun h37 => ?_) (fun h37 => ?_)
        · have h37 := zB_1 h37
          obtain ⟨ewhat, hw9⟩ := h37.nat
          have hok : sForgOk Λ b q f what := ⟨h9, h17, h27, h37⟩
          refine e_aload_n 45 dX8_forged_44 rfl rfl ?_
          refine c_Vqi 48 (ci := 8) dX8_forged_45 (k_X8_isLetterTold G hr hY hF) lm_X8_227 zi_yX8_isLetterTold zs_yX8_isLetterTold rfl rfl (by decide) rfl rfl rfl (Nat.le_of_ble_eq_true rfl) (Nat.le_of_ble_eq_true rfl) (Nat.le_of_ble_eq_true rfl) (by exact Nat.le_refl _) (by exact Nat.le_refl _) ?_
          refine e_if_ne 55 51 dX8_forged_48 (by decide) rfl (fun h48 => ?_) (fun h48 => ?_)
          · have h48 := zB_1 h48
            have hl9 := h48.1
            have hb8 := hlw.2 hl9
            have eAns : sForged Λ m l b q f what = if zForg Λ m l (zK b) (zK q) (zK f) = 0 then -2 else sFrac (lN (zForger Λ m l (zK b) (zK q) (zK f))) (zForger Λ m l (zK b) (zK q) (zK f)) (zForg Λ m l (zK b) (zK q) (zK f)) (zK what) := (iteP hok).trans (iteP h48)
            rw [eAns]
            clear eAns hok h9 h17 h27 h37
            generalize zK b = b9 at eb hb9 ⊢
            generalize zK q = q9 at eq hq9 ⊢
            generalize zK f = f9 at ef hf9 ⊢
            generalize zK what = k9 at ewhat hw9 ⊢
            subst eb eq ef ewhat
            have g1 := zWa_le (on := nI l.2.1) (nt := nI 0) hW hmw (a := b9) (p := q9) (by omega) (by omega) (by omega)
            have g2 := zLw_le hF hl9
            have g3 : zForger Λ m l b9 q9 f9 ≤ 10000000000000000 := Nat.le_trans (Nat.mul_le_mul g1 hf9.2) (by decide)
            have g4 : zLw Λ m l * (10 - f9) ≤ 10000000000000000 := Nat.le_trans (Nat.mul_le_mul g2 (Nat.sub_le 10 f9)) (by decide)
            have g5 : zForg Λ m l b9 q9 f9 = zForger Λ m l b9 q9 f9 + zLw Λ m l * (10 - f9) := rfl
            refine e_iload_n 56 dX8_forged_55 rfl rfl ?_
            refine e_i2l 57 dX8_forged_56 rfl ?_
            rw [i2l_nI9 (by omega)]
            refine e_aload_n 58 dX8_forged_57 rfl rfl ?_
            refine e_aload_n 59 dX8_forged_58 rfl rfl ?_
            refine e_getr 62 dX8_forged_59 lf_X8_35 rfl rfl rfl (by decide) hr.yle ?_
            refine e_iconst 63 hic_0 dX8_forged_62 rfl ?_
            refine e_iald 64 dX8_forged_63 rfl rfl (by decide) rfl (by show 0 < 4; decide) (hl.2 hl9).1 ?_
            refine e_iconst 65 hic_0 dX8_forged_64 rfl ?_
            refine e_iload_n 66 dX8_forged_65 rfl rfl ?_
            refine e_iload_n 67 dX8_forged_66 rfl rfl ?_
            refine c_Vql 70 (ci := 8) dX8_forged_67 (k_X8_weight G hr hd hW (a := b9) (p := q9) (f := (fun w => (m.2.2.2 w).1 q9 b9)) (by omega) (by omega) (by omega) (fun w hw => (hs.2.2.2 w hw).1 q9 (by omega) b9 (by omega) (by omega)) (fun w hw => (hmw.2.2 w hw).1.1 q9 (by omega) b9 (by omega) (by omega))) lm_X8_212 zi_yX8_weight zs_yX8_weight rfl rfl (by decide) rfl rfl rfl (Nat.le_of_ble_eq_true rfl) (Nat.le_of_ble_eq_true rfl) (Nat.le_of_ble_eq_true rfl) (by exact Nat.le_refl _) (by exact Nat.le_refl _) ?_
            refine e_lmul 71 dX8_forged_70 rfl ?_
            rw [lN_mul, Nat.mul_comm f9]
            refine e_lstore 73 dX8_forged_71 rfl (by decide) (zst2_5 rfl) ?_
            refine e_aload_n 74 dX8_forged_73 rfl rfl ?_
            refine e_iconst 75 hic_1 dX8_forged_74 rfl ?_
            refine c_Vv 78 (ci := 8) dX8_forged_75 (k_X8_asideA G hr) lm_X8_230 zi_yX8_aside zs_yX8_aside rfl rfl (by decide) rfl rfl rfl (Nat.le_of_ble_eq_true rfl) (Nat.le_of_ble_eq_true rfl) (Nat.le_of_ble_eq_true rfl) (by exact Nat.le_refl _) (by exact Nat.le_refl _) ?_
            rintro u1 _ _ ⟨f1, e1, rfl, rfl⟩
            have hY0 := hY
            have hs0 := hs
            have hY := hY.mz (zFrz.a f1) (by rw [f1 225 (by decide)]; exact hs)
            obtain ⟨hd, hlate, htr, ht, hs, him, hl, hw⟩ := id hY
            refine e_aload_n 79 dX8_forged_78 rfl rfl ?_
            refine e_aload_n 80 dX8_forged_79 rfl rfl ?_
            refine e_getr 83 dX8_forged_80 lf_X8_35 rfl rfl rfl (by decide) hr.yle ?_
            refine e_iconst 84 hic_1 dX8_forged_83 rfl ?_
            refine e_iald 85 dX8_forged_84 rfl rfl (by decide) rfl (by show 1 < 4; decide) (hl.2 hl9).2.1 ?_
            refine c_Vv 88 (ci := 8) dX8_forged_85 (k_X8_goesTo G hr hd hW hmw.2.1 hb8.2.1 hs.2.2.1 hs.2.1) lm_X8_234 zi_yX8_goesTo zs_yX8_goesTo rfl rfl (by decide) rfl rfl rfl (Nat.le_of_ble_eq_true rfl) (Nat.le_of_ble_eq_true rfl) (Nat.le_of_ble_eq_true rfl) (by exact Nat.le_refl _) (by exact Nat.le_refl _) ?_
            rintro u2 _ _ ⟨f2, s2, rfl, rfl⟩
            have hY := hY.mom f2 s2
            obtain ⟨hd, hlate, htr, ht, hs, him, hl, hw⟩ := id hY
            have f12 := f2.z.t (zFrz.a f1)
            have e12 : ∀ k, k < 2950 → u2 226 k = m1 225 k := fun k hk => (congrFun (f2 226 (by decide) (by decide) (by decide) (by decide)) k).trans (e1 k hk)
            refine e_lload 90 dX8_forged_88 rfl rfl ?_
            refine e_bipush 92 hbi_10 dX8_forged_90 rfl ?_
            refine e_iload_n 93 dX8_forged_92 rfl rfl ?_
            first | refine e_isubN 94 dX8_forged_93 rfl (by omega) ?_ | refine e_isub 94 dX8_forged_93 rfl ?_
            refine e_i2l 95 dX8_forged_94 rfl ?_
            rw [i2l_nI9 (by omega)]
            refine e_aload_n 96 dX8_forged_95 rfl rfl ?_
            refine e_aload_n 97 dX8_forged_96 rfl rfl ?_
            refine e_getr 100 dX8_forged_97 lf_X8_35 rfl rfl rfl (by decide) hr.yle ?_
            refine e_iconst 101 hic_0 dX8_forged_100 rfl ?_
            refine e_iald 102 dX8_forged_101 rfl rfl (by decide) rfl (by show 0 < 4; decide) (hl.2 hl9).1 ?_
            refine e_iconst 103 hic_0 dX8_forged_102 rfl ?_
            refine e_aload_n 104 dX8_forged_103 rfl rfl ?_
            refine e_getr 107 dX8_forged_104 lf_X8_35 rfl rfl rfl (by decide) hr.yle ?_
            refine e_iconst 108 hic_2 dX8_forged_107 rfl ?_
            refine e_iald 109 dX8_forged_108 rfl rfl (by decide) rfl (by show 2 < 4; decide) (hl.2 hl9).2.2.1 ?_
            refine e_aload_n 110 dX8_forged_109 rfl rfl ?_
            refine e_getr 113 dX8_forged_110 lf_X8_35 rfl rfl rfl (by decide) hr.yle ?_
            refine e_iconst 114 hic_3 dX8_forged_113 rfl ?_
            refine e_iald 115 dX8_forged_114 rfl rfl (by decide) rfl (by show 3 < 4; decide) (hl.2 hl9).2.2.2 ?_
            refine c_Vql 118 (ci := 8) dX8_forged_115 (k_X8_weight G hr hd hW (a := l.2.2.2.1) (p := l.2.2.2.2) (f := (zWrote Λ m l)) hb8.2.2.1 hb8.2.2.2.1 hb8.2.2.2.2 (fun w hw => (hs.2.2.2 w hw).1 _ hb8.2.2.2.2 _ hb8.2.2.1 hb8.2.2.2.1) (fun w _ => zWrote_le hF hl9 w)) lm_X8_212 zi_yX8_weight zs_yX8_weight rfl rfl (by decide) rfl rfl rfl (Nat.le_of_ble_eq_true rfl) (Nat.le_of_ble_eq_true rfl) (Nat.le_of_ble_eq_true rfl) (by exact Nat.le_refl _) (by exact Nat.le_refl _) ?_
            refine e_lmul 119 dX8_forged_118 rfl ?_
            rw [lN_mul, Nat.mul_comm (10 - f9)]
            refine e_ladd 120 dX8_forged_119 rfl ?_
            rw [lN_add]
            refine e_lstore 122 dX8_forged_120 rfl (by decide) (zst2_7 rfl) ?_
            refine e_aload_n 123 dX8_forged_122 rfl rfl ?_
            refine e_iconst 124 hic_0 dX8_forged_123 rfl ?_
            refine c_Vv 127 (ci := 8) dX8_forged_124 (k_X8_asideB G hr) lm_X8_230 zi_yX8_aside zs_yX8_aside rfl rfl (by decide) rfl rfl rfl (Nat.le_of_ble_eq_true rfl) (Nat.le_of_ble_eq_true rfl) (Nat.le_of_ble_eq_true rfl) (by exact Nat.le_refl _) (by exact Nat.le_refl _) ?_
            rintro u3 _ _ ⟨f3, e3, rfl, rfl⟩
            have hY := hY0.mz ((zFrz.b f3).t f12) (hs0.c hW hmw (fun k hk => (e3 k hk).trans (e12 k hk)))
            obtain ⟨hd, hlate, htr, ht, hs, him, hl, hw⟩ := id hY
            have hfr3 : ∀ q, q < 224 → u3 q = mi q := fun q hq => (((zFrz.b f3).t f12).lo hq).trans (hfr q (by omega))
            refine e_lload 129 dX8_forged_127 rfl rfl ?_
            refine e_lconst 130 (v := lN 0) rfl dX8_forged_129 rfl ?_
            refine e_lcmp 131 dX8_forged_130 rfl ?_
            refine e_if_ne 140 134 dX8_forged_131 (by decide) rfl (fun h131 => ?_) (fun h131 => ?_)
            · have h131 : ¬ zForg Λ m l b9 q9 f9 = 0 := fun z => h131 ((lg_cmp_eq _ _).mpr (congrArg lN z))
              refine e_lload 142 dX8_forged_140 rfl rfl ?_
              refine e_lload 144 dX8_forged_142 rfl rfl ?_
              refine e_iload 146 dX8_forged_144 rfl rfl ?_
              refine c_Sql 149 dX8_forged_146 (k_X8_part G (a := zForger Λ m l b9 q9 f9) (b := zForg Λ m l b9 q9 f9) (Or.inl rfl) (by omega) (by omega) (by omega) (by omega)) lm_X8_223 zt_yX8_part rfl rfl rfl (Nat.le_of_ble_eq_true rfl) (Nat.le_of_ble_eq_true rfl) (Nat.le_of_ble_eq_true rfl) (by exact Nat.le_refl _) (by exact Nat.le_refl _) ?_
              refine e_lreturn dX8_forged_149 rfl ?_
              exact ⟨_, rfl, by first | rw [if_pos h131] | rw [if_neg h131], hY, hfr3, rfl, rfl⟩
            · have h131 : zForg Λ m l b9 q9 f9 = 0 := (lN_lt63 (by omega) (by decide)).2.mp ((lg_cmp_eq _ _).mp h131)
              refine e_ldc2_w 137 lc_X8_221 dX8_forged_134 rfl ?_
              refine e_goto 149 dX8_forged_137 (by decide) ?_
              refine e_lreturn dX8_forged_149 rfl ?_
              exact ⟨_, rfl, by first | rw [if_pos h131] | rw [if_neg h131], hY, hfr3, rfl, rfl⟩
          · have h48 := zB_0 h48
            refine e_ldc2_w 54 lc_X8_221 dX8_forged_51 rfl ?_
            refine e_lreturn dX8_forged_54 rfl ?_
            exact ⟨_, rfl, ((iteP hok).trans (iteN h48)).symm, hY, fun q hq => hfr q (by omega), rfl, rfl⟩
        · have h37 := zB_0 h37
          refine e_ldc2_w 43 lc_X8_216 dX8_forged_40 rfl ?_
          refine e_lreturn dX8_forged_43 rfl ?_
          exact ⟨_, rfl, (iteN (fun z => by first | exact h9 z.1 | exact h17 z.2.1 | exact h27 z.2.2.1 | exact h37 z.2.2.2)).symm, hY, fun q hq => hfr q (by omega), rfl, rfl⟩

