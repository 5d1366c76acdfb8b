section ZF3
variable {Λ : zLd} {l9 : Nat}
theorem zF3_r {i : Nat} (h : i ≠ 0) : zSetF Λ 3 l9 i = Λ i := zp_r _ _ _ h
theorem zF3_0 {j : Nat} (h : j ≠ 3) : zSetF Λ 3 l9 0 j = Λ 0 j := zp_k _ _ h
theorem zF3_s : zSetF Λ 3 l9 0 3 = l9 := zp_s _ _ _ _
theorem zArr_F3 {S : zLd} {w y : Nat} {sh : Nat → Nat → Nat} : zArr (zSetF Λ 3 l9) S w y sh = zArr Λ S w y sh := by
  unfold zArr zCoin
  rw [zF3_r (i := 3) (by decide), zF3_r (i := 4) (by decide), zF3_0 (j := 5) (by decide)]
theorem zPassSh_F3 {learn w y : Nat} {yg sh : Nat → Nat → Nat} : zPassSh (zSetF Λ 3 l9) learn w y yg sh = zPassSh Λ learn w y yg sh := by
  unfold zPassSh zPassRow
  rw [zF3_r (i := 3) (by decide), zF3_r (i := 5) (by decide), zF3_r (i := 1) (by decide), zF3_0 (j := 0) (by decide), zF3_0 (j := 2) (by decide), zF3_0 (j := 4) (by decide)]
theorem zLive_F3 {S : zLd} {learn w : Nat} : ∀ y, zLive (zSetF Λ 3 l9) S learn w y = zLive Λ S learn w y
  | 0 => by
    show zBegin _ _ _ = zBegin _ _ _
    unfold zBegin
    rw [zArr_F3, zF3_0 (j := 0) (by decide)]
  | y + 1 => by
    show zPass _ _ _ _ _ _ = zPass _ _ _ _ _ _
    rw [zLive_F3 y]
    unfold zPass
    rw [zArr_F3, zPassSh_F3, zF3_0 (j := 0) (by decide)]
theorem zF3_W (h : zLandW Λ) (hl : l9 ≤ 9) : zLandW (zSetF Λ 3 l9) := zSetF_W h (Or.inr (Or.inl ⟨Or.inr (Or.inl rfl), hl⟩))
theorem zF3_S {S : zLd} (h : zSongW (Λ 0 0) (Λ 0 1) S) : zSongW (zSetF Λ 3 l9 0 0) (zSetF Λ 3 l9 0 1) S := by
  rw [zF3_0 (j := 0) (by decide), zF3_0 (j := 1) (by decide)]
  exact h
theorem zF3_d {mi : zFi} (h : zYd mi Λ) : zYd (zp mi 230 1 (nI l9)) (zSetF Λ 3 l9) := by
  obtain ⟨⟨a1, a2⟩, a3, a4, a5⟩ := h
  have e : ∀ q, q ≠ 230 → zp mi 230 1 (nI l9) q = mi q := fun q hq => zp_r _ _ _ hq
  refine ⟨⟨?_, ?_⟩, fun k hk => ?_, fun j hj => ?_, fun w hw i hi => ?_⟩
  · rw [e 224 (by decide), zF3_0 (j := 0) (by decide)]; exact a1
  · rw [e 224 (by decide), zF3_0 (j := 1) (by decide)]; exact a2
  · by_cases q : k = 1
    · subst q; rw [zp_s, zF3_s]
    · rw [zp_k _ _ q, zF3_0 (by omega)]; exact a3 k hk
  · rw [e 231 (by decide), zF3_r (by decide)]; exact a4 j hj
  · rw [zF3_0 (j := 1) (by decide)] at hw
    rw [e 232 (by decide), zF3_r (by omega)]; exact a5 w hw i hi
theorem zF3_o {m : zMo} {w : Nat} : zOver (zYm (zSetF Λ 3 l9 0 0) ((zLvM (zSetF Λ 3 l9) m.2.2.1 m.2.1 99).2.2.2 w).2.1) 99 = zOver (zYm (Λ 0 0) (zLive Λ m.2.2.1 l9 w 99).2.1) 99 := by
  show zOver (zYm (zSetF Λ 3 l9 0 0) (zLive (zSetF Λ 3 l9) m.2.2.1 (zSetF Λ 3 l9 0 3) w 99).2.1) 99 = _
  rw [zF3_0 (j := 0) (by decide), zF3_s, zLive_F3]
end ZF3
theorem zY.pz {mi u : zFi} {ml : zFl} {Λ : zLd} {late : Nat} {tr : Int64} {t : zTx} {m m' : zMo} {im : Nat → Nat × zMo} {l : zLt} {r : zWr} (h : zY mi ml Λ late tr t m im l r) (e : ∀ q, q ≠ 224 → q ≠ 225 → q ≠ 226 → q ≠ 235 → q ≠ 236 → q ≠ 237 → u q = mi q) (e4 : ∀ k, k ≠ 29 → k ≠ 30 → u 224 k = mi 224 k) (hs : zYs (u 225) Λ m') : zY u ml Λ late tr t m' im l r := by
  obtain ⟨h1, h2, h3, h4, h5, h6, h7, h8⟩ := h
  have g : ∀ q, 227 ≤ q ∧ q ≤ 234 → u q = mi q := fun q hq => e q (by omega) (by omega) (by omega) (by omega) (by omega) (by omega)
  refine ⟨?_, by rw [g 230 (by omega)]; exact h2, h3, ?_, hs, ?_, ?_, ?_⟩
  · unfold zYd; rw [e4 16 (by decide) (by decide), e4 17 (by decide) (by decide), g 230 (by omega), g 231 (by omega), g 232 (by omega)]; exact h1
  · unfold zYt; rw [e4 7 (by decide) (by decide), g 229 (by omega)]; exact h4
  · unfold zYi; rw [g 228 (by omega), g 227 (by omega)]; exact h6
  · unfold zYl; rw [e4 23 (by decide) (by decide), g 233 (by omega)]; exact h7
  · unfold zYw; rw [e4 25 (by decide) (by decide), g 234 (by omega)]; exact h8
/-- what overBy leaves -/
theorem zOb {mi u1 u2 u3 u4 : zFi} {ml : zFl} {Λ : zLd} {late : Nat} {tr : Int64} {t : zTx} {m : zMo} {im : Nat → Nat × zMo} {l : zLt} {r : zWr} {l9 : Nat} (hW : zLandW Λ) (hmw : zMoW Λ m) (h : zY mi ml Λ late tr t m im l r) (f1 : ∀ q, q ≠ 226 → u1 q = mi q) (e1 : ∀ j, j < 2950 → u1 226 j = mi 225 j) (f2 : zFrm u2 (zp u1 230 1 (nI l9))) (f3 : zPk9 u3 u2) (f4 : ∀ q, q ≠ 225 → u4 q = zp u3 230 1 (nI (Λ 0 3)) q) (e4 : ∀ j, j < 2950 → u4 225 j = zp u3 230 1 (nI (Λ 0 3)) 226 j) : zY u4 ml Λ late tr t m im l r ∧ u4 224 30 = u3 224 30 ∧ ∀ q, q < 224 → u4 q = mi q := by
  have hb : mi 230 1 = nI (Λ 0 3) := h.1.2.1 1 (by decide)
  have e3 : ∀ q, q ≠ 230 → q ≠ 224 → q ≠ 225 → q ≠ 226 → q ≠ 235 → q ≠ 236 → q ≠ 237 → zp u3 230 1 (nI (Λ 0 3)) q = mi q := fun q k1 k2 k3 k4 k5 k6 k7 => by
    rw [zp_r _ _ _ k1, f3.1 q k2, f2 q k3 k5 k6 k7, zp_r _ _ _ k1, f1 q k4]
  have e230 : zp u3 230 1 (nI (Λ 0 3)) 230 = mi 230 := by
    funext k
    by_cases q : k = 1
    · subst q; rw [zp_s, hb]
    · rw [zp_k _ _ q, f3.1 230 (by decide), f2 230 (by decide) (by decide) (by decide) (by decide), zp_k _ _ q, f1 230 (by decide)]
  have far : ∀ q, q ≠ 224 → q ≠ 225 → q ≠ 226 → q ≠ 235 → q ≠ 236 → q ≠ 237 → u4 q = mi q := fun q k2 k3 k4 k5 k6 k7 => by
    rw [f4 q k3]
    by_cases z : q = 230
    · subst z; exact e230
    · exact e3 q z k2 k3 k4 k5 k6 k7
  refine ⟨h.pz far (fun k g1 g2 => ?_) (h.2.2.2.2.1.c hW hmw (fun k hk => ?_)), ?_, fun q hq => far q (by omega) (by omega) (by omega) (by omega) (by omega) (by omega)⟩
  · rw [f4 224 (by decide), zp_r _ _ _ (by decide), f3.2 k g1 g2, f2 224 (by decide) (by decide) (by decide) (by decide), zp_r _ _ _ (by decide), f1 224 (by decide)]
  · rw [e4 k hk, zp_r _ _ _ (by decide), f3.1 226 (by decide), f2 226 (by decide) (by decide) (by decide) (by decide), zp_r _ _ _ (by decide), e1 k hk]
  · rw [f4 224 (by decide), zp_r _ _ _ (by decide)]
theorem zYd.mz9 {u mi : zFi} {Λ : zLd} (h : zYd mi Λ) (e : ∀ q, q ≠ 226 → u q = mi q) : zYd u Λ := by
  unfold zYd
  rw [e 224 (by decide), e 230 (by decide), e 231 (by decide), e 232 (by decide)]
  exact h
set_option maxHeartbeats 4000000 in
set_option maxRecDepth 100000 in
theorem k_X8_overBy (G : zG) {D E : Nat} {Λ : zLd} {late : Nat} {tr : Int64} {t : zTx} {m : zMo} {im : Nat → Nat × zMo} {l : zLt} {r : zWr} {mi : zFi} {ml : zFl} {mr : zFr} (hr : zRf mr D E) (hY : zY mi ml Λ late tr t m im l r) (hF : zWf Λ late t m im l r) {w l9 : Nat} (hw9 : w < Λ 0 1) (hl9 : l9 ≤ 9) : zMet G 7 yX8_overBy cX8_overBy 4 (some .int) [.ref 224, .int (nI w), .int (nI l9)] 238 mi ml mr 238 (zPi fun x u b c => x = zLast Λ m w l9 ∧ zY u b Λ late tr t m im l r ∧ (∀ q, q < 224 → u q = mi q) ∧ b = ml ∧ c = mr) := by
  obtain ⟨hW, hla30, htw, hmw, himw, hlw, hrw⟩ := id hF
  have hP3 := hW.1.1
  have hW5 := hW.1.2.1
  have hy99 := hmw.1
  obtain ⟨hd, hlate, htr, ht, hs, him, hl, hw⟩ := id hY
  refine z_intro ([.ref 224, .int (nI w), .int (nI l9), zx]) (by decide) rfl (Nat.le_of_ble_eq_true rfl) ?_
  refine e_aload_n 1 dX8_overBy_0 rfl rfl ?_
  refine e_getr 4 dX8_overBy_1 lf_X8_26 rfl rfl rfl (by decide) hr.yl ?_
  refine e_iconst 5 hic_1 dX8_overBy_4 rfl ?_
  refine e_iald (v := nI (Λ 0 3)) 6 dX8_overBy_5 rfl rfl (by decide) rfl (by show 1 < 10; decide) (hd.2.1 1 (by decide)) ?_
  refine e_istore_n 7 dX8_overBy_6 rfl (by decide) (zst1_3 rfl) ?_
  refine e_aload_n 8 dX8_overBy_7 rfl rfl ?_
  refine e_iconst 9 hic_1 dX8_overBy_8 rfl ?_
  refine c_Vv 12 (ci := 8) dX8_overBy_9 (k_X8_asideA G hr) lm_X8_230 zi_yX8_aside zs_yX8_aside rfl rfl (by decide) rfl rfl rfl (Nat.le_of_ble_eq_true rfl) (Nat.le_of_ble_eq_true rfl) (Nat.le_of_ble_eq_true rfl) (by exact Nat.le_refl _) (by exact Nat.le_refl _) ?_
  rintro u1 _ _ ⟨f1, e1, rfl, rfl⟩
  have hd1 : zYd (zp u1 230 1 (nI l9)) (zSetF Λ 3 l9) := zF3_d (hd.mz9 f1)
  have hs1 : zp u1 230 1 (nI l9) 225 = mi 225 := (zp_r _ _ _ (by decide)).trans (f1 225 (by decide))
  have hW2 := zF3_W (l9 := l9) hW hl9
  have hS2 := zF3_S (l9 := l9) hmw.2.1
  refine e_aload_n 13 dX8_overBy_12 rfl rfl ?_
  refine e_getr 16 dX8_overBy_13 lf_X8_26 rfl rfl rfl (by decide) hr.yl ?_
  refine e_iconst 17 hic_1 dX8_overBy_16 rfl ?_
  refine e_iload_n 18 dX8_overBy_17 rfl rfl ?_
  refine e_iast 19 dX8_overBy_18 rfl rfl (by decide) rfl (by show 1 < 10; decide) ?_
  refine e_aload_n 20 dX8_overBy_19 rfl rfl ?_
  refine e_bipush 22 hbi_99 dX8_overBy_20 rfl ?_
  refine c_Vv 25 (ci := 8) dX8_overBy_22 (k_X8_goesTo G hr hd1 hW2 hS2 (lot := m.2.1) (by decide) (by rw [hs1]; exact hs.2.2.1) (by rw [hs1]; exact hs.2.1)) lm_X8_234 zi_yX8_goesTo zs_yX8_goesTo rfl rfl (by decide) rfl rfl rfl (Nat.le_of_ble_eq_true rfl) (Nat.le_of_ble_eq_true rfl) (Nat.le_of_ble_eq_true rfl) (by exact Nat.le_refl _) (by exact Nat.le_refl _) ?_
  rintro u2 _ _ ⟨f2, s2, rfl, rfl⟩
  refine e_aload_n 26 dX8_overBy_25 rfl rfl ?_
  refine e_iload_n 27 dX8_overBy_26 rfl rfl ?_
  refine c_Vi 30 (ci := 8) dX8_overBy_27 (k_X8_peakOf G hr (hd1.v f2) hW2 s2 (zLvM_W hW2 hS2 (by decide)) (w := w) (by rw [zF3_0 (by decide)]; exact hw9)) lm_X8_202 zi_yX8_peakOf zs_yX8_peakOf rfl rfl (by decide) rfl rfl rfl (Nat.le_of_ble_eq_true rfl) (Nat.le_of_ble_eq_true rfl) (Nat.le_of_ble_eq_true rfl) (by exact Nat.le_refl _) (by exact Nat.le_refl _) ?_
  rintro x3 u3 _ _ ⟨-, p29, p30, f3, rfl, rfl⟩
  have p30 := p30.trans (congrArg zOptI zF3_o)
  refine e_pop 31 dX8_overBy_30 rfl rfl ?_
  refine e_aload_n 32 dX8_overBy_31 rfl rfl ?_
  refine e_getr 35 dX8_overBy_32 lf_X8_26 rfl rfl rfl (by decide) hr.yl ?_
  refine e_iconst 36 hic_1 dX8_overBy_35 rfl ?_
  refine e_iload_n 37 dX8_overBy_36 rfl rfl ?_
  refine e_iast 38 dX8_overBy_37 rfl rfl (by decide) rfl (by show 1 < 10; decide) ?_
  refine e_aload_n 39 dX8_overBy_38 rfl rfl ?_
  refine e_iconst 40 hic_0 dX8_overBy_39 rfl ?_
  refine c_Vv 43 (ci := 8) dX8_overBy_40 (k_X8_asideB G hr) lm_X8_230 zi_yX8_aside zs_yX8_aside rfl rfl (by decide) rfl rfl rfl (Nat.le_of_ble_eq_true rfl) (Nat.le_of_ble_eq_true rfl) (Nat.le_of_ble_eq_true rfl) (by exact Nat.le_refl _) (by exact Nat.le_refl _) ?_
  rintro u4 _ _ ⟨f4, e4, rfl, rfl⟩
  obtain ⟨hY4, h30, hlo⟩ := zOb hW hmw hY f1 e1 f2 f3 f4 e4
  refine e_aload_n 44 dX8_overBy_43 rfl rfl ?_
  refine e_geti 47 dX8_overBy_44 lf_X8_196 rfl rfl rfl (by decide) (h30.trans p30) ?_
  refine e_bipush 49 hbi_m9 dX8_overBy_47 rfl ?_
  refine e_icmp_ne 57 52 dX8_overBy_49 (by decide) rfl (fun h49 => ?_) (fun h49 => ?_)
  · refine e_aload_n 58 dX8_overBy_57 rfl rfl ?_
    refine e_geti 61 dX8_overBy_58 lf_X8_196 rfl rfl rfl (by decide) (h30.trans p30) ?_
    refine e_ireturn .int dX8_overBy_61 rfl rfl ?_
    exact ⟨_, rfl, by first | exact zOr_0 h49 (fun y hy => zOver_b y hy) | exact zOr_1 h49, hY4, hlo, rfl, rfl⟩
  · refine e_bipush 54 hbi_99 dX8_overBy_52 rfl ?_
    refine e_goto 61 dX8_overBy_54 (by decide) ?_
    refine e_ireturn .int dX8_overBy_61 rfl rfl ?_
    exact ⟨_, rfl, by first | exact zOr_0 h49 (fun y hy => zOver_b y hy) | exact zOr_1 h49, hY4, hlo, rfl, rfl⟩

set_option maxHeartbeats 4000000 in
set_option maxRecDepth 100000 in
theorem k_X8_kills (G : zG) {D E : Nat} {Λ : zLd} {late : Nat} {tr : Int64} {t : zTx} {m : zMo} {im : Nat → Nat × zMo} {l : zLt} {r : zWr} {mi : zFi} {ml : zFl} {mr : zFr} (hr : zRf mr D E) (hY : zY mi ml Λ late tr t m im l r) (hF : zWf Λ late t m im l r) {w : Int32} : zMet G 8 yX8_kills cX8_kills 2 (some .int) [.ref 224, .int w] 238 mi ml mr 238 (zPi fun x u b c => x = sKills Λ m w ∧ zY u b Λ late tr t m im l r ∧ (∀ q, q < 224 → u q = mi q) ∧ b = ml ∧ c = mr) := by
  obtain ⟨hW, hla30, htw, hmw, himw, hlw, hrw⟩ := id hF
  have hP3 := hW.1.1
  have hW5 := hW.1.2.1
  have hy99 := hmw.1
  refine z_intro ([.ref 224, .int w]) (by decide) rfl (Nat.le_of_ble_eq_true rfl) ?_
  refine e_aload_n 1 dX8_kills_0 rfl rfl ?_
  refine e_iconst 2 hic_0 dX8_kills_1 rfl ?_
  refine e_puti 5 dX8_kills_2 lf_X8_56 rfl rfl rfl rfl rfl (by decide) ?_
  obtain ⟨m1, em, hfr⟩ : ∃ m1, m1 = zp mi 224 0 (nI 0) ∧ ∀ q, q ≠ 224 → m1 q = mi q := ⟨_, rfl, fun q hq => zp_r _ _ _ hq⟩
  have hY := hY.th (k := 0) (v := nI 0) (Or.inl rfl)
  rw [← em] at hY ⊢
  obtain ⟨hd, hlate, htr, ht, hs, him, hl, hw⟩ := id hY
  refine e_aload_n 6 dX8_kills_5 rfl rfl ?_
  refine e_iload_n 7 dX8_kills_6 rfl rfl ?_
  refine c_Vqi 10 (ci := 8) dX8_kills_7 (k_X8_isWord G hr hd hW) lm_X8_156 zi_yX8_isWord zs_yX8_isWord rfl rfl (by decide) rfl rfl rfl (Nat.le_of_ble_eq_true rfl) (Nat.le_of_ble_eq_true rfl) (Nat.le_of_ble_eq_true rfl) (by exact Nat.le_refl _) (by exact Nat.le_refl _) ?_
  refine e_if_eq 42 13 dX8_kills_10 (by decide) rfl (fun h10 => ?_) (fun h10 => ?_)
  · have h10 := zB_0 h10
    refine e_ldc 44 lc_X8_240 dX8_kills_42 rfl ?_
    refine e_ireturn .int dX8_kills_44 rfl rfl ?_
    first
      | exact ⟨_, rfl, (iteP ⟨h10, h18⟩).symm, hY, fun q hq => ((gu2 q hq).trans (gu1 q hq)).trans (hfr q (by omega)), rfl, rfl⟩
      | exact ⟨_, rfl, (iteN (fun z => by first | exact h10 z.1 | exact h18 z.2)).symm, hY, fun q hq => hfr q (by omega), rfl, rfl⟩
  · have h10 := zB_1 h10
    obtain ⟨ew, hw9⟩ := h10.nat
    refine e_aload_n 14 dX8_kills_13 rfl rfl ?_
    refine e_iload_n 15 dX8_kills_14 rfl rfl ?_
    rw [show (Value.int w) = Value.int (nI (zK w)) from congrArg Value.int ew]
    refine c_Vqi 18 (ci := 8) dX8_kills_15 (k_X8_isCoined G hr hd hW hw9 hs.1 hy99) lm_X8_159 zi_yX8_isCoined zs_yX8_isCoined rfl rfl (by decide) rfl rfl rfl (Nat.le_of_ble_eq_true rfl) (Nat.le_of_ble_eq_true rfl) (Nat.le_of_ble_eq_true rfl) (by exact Nat.le_refl _) (by exact Nat.le_refl _) ?_
    refine e_if_eq 42 21 dX8_kills_18 (by decide) rfl (fun h18 => ?_) (fun h18 => ?_)
    · have h18 := zB_0 h18
      refine e_ldc 44 lc_X8_240 dX8_kills_42 rfl ?_
      refine e_ireturn .int dX8_kills_44 rfl rfl ?_
      first
        | exact ⟨_, rfl, (iteP ⟨h10, h18⟩).symm, hY, fun q hq => ((gu2 q hq).trans (gu1 q hq)).trans (hfr q (by omega)), rfl, rfl⟩
        | exact ⟨_, rfl, (iteN (fun z => by first | exact h10 z.1 | exact h18 z.2)).symm, hY, fun q hq => hfr q (by omega), rfl, rfl⟩
    · have h18 := zB_1 h18
      refine e_aload_n 22 dX8_kills_21 rfl rfl ?_
      refine e_iload_n 23 dX8_kills_22 rfl rfl ?_
      refine e_iconst 24 hic_0 dX8_kills_23 rfl ?_
      refine c_Vi 27 (ci := 8) dX8_kills_24 (k_X8_overBy G hr hY hF hw9 (Nat.zero_le 9)) lm_X8_237 zi_yX8_overBy zs_yX8_overBy rfl rfl (by decide) rfl rfl rfl (Nat.le_of_ble_eq_true rfl) (Nat.le_of_ble_eq_true rfl) (Nat.le_of_ble_eq_true rfl) (by exact Nat.le_refl _) (by exact Nat.le_refl _) ?_
      rintro x1 u1 _ _ ⟨rfl, hY1, gu1, rfl, rfl⟩
      have hY := hY1
      obtain ⟨hd, hlate, htr, ht, hs, him, hl, hw⟩ := id hY
      refine e_aload_n 28 dX8_kills_27 rfl rfl ?_
      refine e_iload_n 29 dX8_kills_28 rfl rfl ?_
      refine e_aload_n 30 dX8_kills_29 rfl rfl ?_
      refine e_getr 33 dX8_kills_30 lf_X8_26 rfl rfl rfl (by decide) hr.yl ?_
      refine e_iconst 34 hic_1 dX8_kills_33 rfl ?_
      refine e_iald (v := nI (Λ 0 3)) 35 dX8_kills_34 rfl rfl (by decide) rfl (by show 1 < 10; decide) (hd.2.1 1 (by decide)) ?_
      refine c_Vi 38 (ci := 8) dX8_kills_35 (k_X8_overBy G hr hY hF hw9 hW.1.2.2.2.1) lm_X8_237 zi_yX8_overBy zs_yX8_overBy rfl rfl (by decide) rfl rfl rfl (Nat.le_of_ble_eq_true rfl) (Nat.le_of_ble_eq_true rfl) (Nat.le_of_ble_eq_true rfl) (by exact Nat.le_refl _) (by exact Nat.le_refl _) ?_
      rintro x2 u2 _ _ ⟨rfl, hY2, gu2, rfl, rfl⟩
      have hY := hY2
      obtain ⟨hd, hlate, htr, ht, hs, him, hl, hw⟩ := id hY
      refine e_isub 39 dX8_kills_38 rfl ?_
      refine e_goto 44 dX8_kills_39 (by decide) ?_
      refine e_ireturn .int dX8_kills_44 rfl rfl ?_
      first
        | exact ⟨_, rfl, (iteP ⟨h10, h18⟩).symm, hY, fun q hq => ((gu2 q hq).trans (gu1 q hq)).trans (hfr q (by omega)), rfl, rfl⟩
        | exact ⟨_, rfl, (iteN (fun z => by first | exact h10 z.1 | exact h18 z.2)).symm, hY, fun q hq => hfr q (by omega), rfl, rfl⟩

theorem zPt {mi u1 u2 u3 u4 : zFi} {ml : zFl} {Λ : zLd} {late : Nat} {tr : Int64} {t : zTx} {m : zMo} {im : Nat → Nat × zMo} {l : zLt} {r : zWr} (hW : zLandW Λ) (hmw : zMoW Λ m) (h : zY mi ml Λ late tr t m im l r) (f1 : ∀ q, q ≠ 226 → u1 q = mi q) (e1 : ∀ j, j < 2950 → u1 226 j = mi 225 j) (f2 : zFrm u2 (zp u1 225 2 (nI 0))) (f3 : zPk9 u3 u2) (f4 : ∀ q, q ≠ 225 → u4 q = u3 q) (e4 : ∀ j, j < 2950 → u4 225 j = u3 226 j) : zY u4 ml Λ late tr t m im l r ∧ ∀ q, q < 224 → u4 q = mi q := by
  have far : ∀ q, q ≠ 224 → q ≠ 225 → q ≠ 226 → q ≠ 235 → q ≠ 236 → q ≠ 237 → u4 q = mi q := fun q k2 k3 k4 k5 k6 k7 => by
    rw [f4 q k3, f3.1 q k2, f2 q k3 k5 k6 k7, zp_r _ _ _ k3, f1 q k4]
  refine ⟨h.pz far (fun k g1 g2 => ?_) (h.2.2.2.2.1.c hW hmw (fun k hk => ?_)), fun q hq => far q (by omega) (by omega) (by omega) (by omega) (by omega) (by omega)⟩
  · rw [f4 224 (by decide), f3.2 k g1 g2, f2 224 (by decide) (by decide) (by decide) (by decide), zp_r _ _ _ (by decide), f1 224 (by decide)]
  · rw [e4 k hk, f3.1 226 (by decide), f2 226 (by decide) (by decide) (by decide) (by decide), zp_r _ _ _ (by decide), e1 k hk]
theorem zYsg_00 {F : Nat → Int32} (h : F 2 = nI 0) : zYsg F zS0 := ⟨h, fun i hi => absurd hi (Nat.not_lt_zero _)⟩
set_option maxHeartbeats 4000000 in
set_option maxRecDepth 100000 in
theorem k_X8_part_ (G : zG) {D E : Nat} {Λ : zLd} {late : Nat} {tr : Int64} {t : zTx} {m : zMo} {im : Nat → Nat × zMo} {l : zLt} {r : zWr} {mi : zFi} {ml : zFl} {mr : zFr} (hr : zRf mr D E) (hY : zY mi ml Λ late tr t m im l r) (hF : zWf Λ late t m im l r) {w : Int32} : zMet G 7 yX8_part_ cX8_part_ 5 (some .int) [.ref 224, .int w] 238 mi ml mr 238 (zPi fun x u b c => x = sPart Λ m w ∧ zY u b Λ late tr t m im l r ∧ (∀ q, q < 224 → u q = mi q) ∧ b = ml ∧ c = mr) := by
  obtain ⟨hW, hla30, htw, hmw, himw, hlw, hrw⟩ := id hF
  have hP3 := hW.1.1
  have hW5 := hW.1.2.1
  have hy99 := hmw.1
  refine z_intro ([.ref 224, .int w, zx, zx, zx]) (by decide) rfl (Nat.le_of_ble_eq_true rfl) ?_
  refine e_aload_n 1 dX8_part__0 rfl rfl ?_
  refine e_iconst 2 hic_0 dX8_part__1 rfl ?_
  refine e_puti 5 dX8_part__2 lf_X8_56 rfl rfl rfl rfl rfl (by decide) ?_
  obtain ⟨m1, em, hfr⟩ : ∃ m1, m1 = zp mi 224 0 (nI 0) ∧ ∀ q, q ≠ 224 → m1 q = mi q := ⟨_, rfl, fun q hq => zp_r _ _ _ hq⟩
  have hY := hY.th (k := 0) (v := nI 0) (Or.inl rfl)
  rw [← em] at hY ⊢
  obtain ⟨hd, hlate, htr, ht, hs, him, hl, hw⟩ := id hY
  refine e_aload_n 6 dX8_part__5 rfl rfl ?_
  refine e_iload_n 7 dX8_part__6 rfl rfl ?_
  refine c_Vqi 10 (ci := 8) dX8_part__7 (k_X8_isWord G hr hd hW) lm_X8_156 zi_yX8_isWord zs_yX8_isWord rfl rfl (by decide) rfl rfl rfl (Nat.le_of_ble_eq_true rfl) (Nat.le_of_ble_eq_true rfl) (Nat.le_of_ble_eq_true rfl) (by exact Nat.le_refl _) (by exact Nat.le_refl _) ?_
  refine e_if_ne 16 13 dX8_part__10 (by decide) rfl (fun h10 => ?_) (fun h10 => ?_)
  · have h10 := zB_1 h10
    obtain ⟨ew, hw9⟩ := h10.nat
    have eA : sPart Λ m w = nI (zPeakV Λ m.1 (m.2.2.2 (zK w))) - nI (zPeakV Λ m.1 (zLive Λ zS0 (Λ 0 3) (zK w) m.1)) := iteP h10
    rw [eA]
    clear eA h10
    generalize zK w = w9 at ew hw9 ⊢
    subst ew
    refine e_aload_n 17 dX8_part__16 rfl rfl ?_
    refine e_iload_n 18 dX8_part__17 rfl rfl ?_
    refine c_Vi 21 (ci := 8) dX8_part__18 (k_X8_peakOf G hr hd hW hs hmw hw9) lm_X8_202 zi_yX8_peakOf zs_yX8_peakOf rfl rfl (by decide) rfl rfl rfl (Nat.le_of_ble_eq_true rfl) (Nat.le_of_ble_eq_true rfl) (Nat.le_of_ble_eq_true rfl) (by exact Nat.le_refl _) (by exact Nat.le_refl _) ?_
    rintro x1 u0 _ _ ⟨rfl, p29, p30, f0, rfl, rfl⟩
    have hY := hY.pk f0
    obtain ⟨hd, hlate, htr, ht, hs, him, hl, hw⟩ := id hY
    have hfr0 : ∀ q, q < 224 → u0 q = mi q := fun q hq => (f0.1 q (by omega)).trans (hfr q (by omega))
    refine e_istore_n 22 dX8_part__21 rfl (by decide) (zst1_2 rfl) ?_
    refine e_aload_n 23 dX8_part__22 rfl rfl ?_
    refine e_getr 26 dX8_part__23 lf_X8_7 rfl rfl rfl (by decide) hr.ys ?_
    refine e_iconst 27 hic_0 dX8_part__26 rfl ?_
    refine e_iald (v := nI m.1) 28 dX8_part__27 rfl rfl (by decide) rfl (by show 0 < 2950; omega) hs.1 ?_
    refine e_istore_n 29 dX8_part__28 rfl (by decide) (zst1_3 rfl) ?_
    refine e_aload_n 30 dX8_part__29 rfl rfl ?_
    refine e_iconst 31 hic_1 dX8_part__30 rfl ?_
    refine c_Vv 34 (ci := 8) dX8_part__31 (k_X8_asideA G hr) lm_X8_230 zi_yX8_aside zs_yX8_aside rfl rfl (by decide) rfl rfl rfl (Nat.le_of_ble_eq_true rfl) (Nat.le_of_ble_eq_true rfl) (Nat.le_of_ble_eq_true rfl) (by exact Nat.le_refl _) (by exact Nat.le_refl _) ?_
    rintro u1 _ _ ⟨f1, e1, rfl, rfl⟩
    have hd1 : zYd (zp u1 225 2 (nI 0)) Λ := (hd.mz9 f1).s zFs9.p
    have hs1 : zp u1 225 2 (nI 0) 225 1 = m.2.1 := (zp_k _ _ (by decide)).trans ((congrFun (f1 225 (by decide)) 1).trans hs.2.1)
    refine e_aload_n 35 dX8_part__34 rfl rfl ?_
    refine e_getr 38 dX8_part__35 lf_X8_7 rfl rfl rfl (by decide) hr.ys ?_
    refine e_iconst 39 hic_2 dX8_part__38 rfl ?_
    refine e_iconst 40 hic_0 dX8_part__39 rfl ?_
    refine e_iast 41 dX8_part__40 rfl rfl (by decide) rfl (by show 2 < 2950; decide) ?_
    refine e_aload_n 42 dX8_part__41 rfl rfl ?_
    refine e_iload_n 43 dX8_part__42 rfl rfl ?_
    refine c_Vv 46 (ci := 8) dX8_part__43 (k_X8_goesTo G hr hd1 hW (zS0_W (Λ 0 0) (Λ 0 1)) (lot := m.2.1) hy99 (zYsg_00 (zp_s _ _ _ _)) hs1) lm_X8_234 zi_yX8_goesTo zs_yX8_goesTo rfl rfl (by decide) rfl rfl rfl (Nat.le_of_ble_eq_true rfl) (Nat.le_of_ble_eq_true rfl) (Nat.le_of_ble_eq_true rfl) (by exact Nat.le_refl _) (by exact Nat.le_refl _) ?_
    rintro u2 _ _ ⟨f2, s2, rfl, rfl⟩
    refine e_aload_n 47 dX8_part__46 rfl rfl ?_
    refine e_iload_n 48 dX8_part__47 rfl rfl ?_
    refine c_Vi 51 (ci := 8) dX8_part__48 (k_X8_peakOf G hr (hd1.v f2) hW s2 (zLvM_W hW (zS0_W (Λ 0 0) (Λ 0 1)) hy99) hw9) lm_X8_202 zi_yX8_peakOf zs_yX8_peakOf rfl rfl (by decide) rfl rfl rfl (Nat.le_of_ble_eq_true rfl) (Nat.le_of_ble_eq_true rfl) (Nat.le_of_ble_eq_true rfl) (by exact Nat.le_refl _) (by exact Nat.le_refl _) ?_
    rintro x3 u3 _ _ ⟨rfl, q29, q30, f3, rfl, rfl⟩
    refine e_istore 53 dX8_part__51 rfl (by decide) (zst1_4 rfl) ?_
    refine e_aload_n 54 dX8_part__53 rfl rfl ?_
    refine e_iconst 55 hic_0 dX8_part__54 rfl ?_
    refine c_Vv 58 (ci := 8) dX8_part__55 (k_X8_asideB G hr) lm_X8_230 zi_yX8_aside zs_yX8_aside rfl rfl (by decide) rfl rfl rfl (Nat.le_of_ble_eq_true rfl) (Nat.le_of_ble_eq_true rfl) (Nat.le_of_ble_eq_true rfl) (by exact Nat.le_refl _) (by exact Nat.le_refl _) ?_
    rintro u4 _ _ ⟨f4, e4, rfl, rfl⟩
    obtain ⟨hY4, hlo⟩ := zPt hW hmw hY f1 e1 f2 f3 f4 e4
    refine e_iload_n 59 dX8_part__58 rfl rfl ?_
    refine e_iload 61 dX8_part__59 rfl rfl ?_
    refine e_isub 62 dX8_part__61 rfl ?_
    refine e_ireturn .int dX8_part__62 rfl rfl ?_
    exact ⟨_, rfl, rfl, hY4, fun q hq => (hlo q hq).trans (hfr0 q hq), rfl, rfl⟩
  · have h10 := zB_0 h10
    refine e_ldc 15 lc_X8_240 dX8_part__13 rfl ?_
    refine e_ireturn .int dX8_part__15 rfl rfl ?_
    exact ⟨_, rfl, (iteN h10).symm, hY, fun q hq => hfr q (by omega), rfl, rfl⟩

