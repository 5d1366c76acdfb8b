theorem zFrm.lo {u mi : zFi} (h : zFrm u mi) {q : Nat} (hq : q < 224) : u q = mi q := h q (by omega) (by omega) (by omega) (by omega)
theorem zYsg_0 {F : Nat → Int32} (h : F 2 = nI 0) : zYsg F zS0 := ⟨h, fun i hi => absurd hi (Nat.not_lt_zero _)⟩
set_option maxHeartbeats 4000000 in
set_option maxRecDepth 100000 in
theorem k_X8_anew (G : zG) {D E : Nat} {Λ : zLd} {late : Nat} {tr : Int64} {t : zTx} {m : zMo} {im : Nat → Nat × zMo} {l : zLt} {r : zWr} {mi : zFi} {ml : zFl} {mr : zFr} (hr : zRf mr D E) (hY : zY mi ml Λ late tr t m im l r) (hF : zWf Λ late t m im l r)  : zMet G 6 yX8_anew cX8_anew 2 (some .int) [.ref 224] 238 mi ml mr 238 (zPi fun x u b c => x = nI m.1 ∧ zY u b Λ late tr t (zAnew Λ m) im l r ∧ (∀ q, q < 224 → u q = mi q) ∧ b = ml ∧ c = mr) := by
  obtain ⟨hW, hla30, htw, hmw, himw, hlw, hrw⟩ := id hF
  have hP3 := hW.1.1
  have hW5 := hW.1.2.1
  have hy99 := hmw.1
  refine z_intro ([.ref 224, zx]) (by decide) rfl (Nat.le_of_ble_eq_true rfl) ?_
  refine e_aload_n 1 dX8_anew_0 rfl rfl ?_
  refine e_iconst 2 hic_0 dX8_anew_1 rfl ?_
  refine e_puti 5 dX8_anew_2 lf_X8_56 rfl rfl rfl rfl rfl (by decide) ?_
  obtain ⟨m1, em, hfr⟩ : ∃ m1, m1 = zp mi 224 0 (nI 0) ∧ ∀ q, q ≠ 224 → m1 q = mi q := ⟨_, rfl, fun q hq => zp_r _ _ _ hq⟩
  have hY := hY.th (k := 0) (v := nI 0) (Or.inl rfl)
  rw [← em] at hY ⊢
  obtain ⟨hd, hlate, htr, ht, hs, him, hl, hw⟩ := id hY
  refine e_aload_n 6 dX8_anew_5 rfl rfl ?_
  refine e_getr 9 dX8_anew_6 lf_X8_7 rfl rfl rfl (by decide) hr.ys ?_
  refine e_iconst 10 hic_0 dX8_anew_9 rfl ?_
  refine e_iald (v := nI m.1) 11 dX8_anew_10 rfl rfl (by decide) rfl (by show 0 < 2950; omega) hs.1 ?_
  refine e_istore_n 12 dX8_anew_11 rfl (by decide) (zst1_1 rfl) ?_
  refine e_aload_n 13 dX8_anew_12 rfl rfl ?_
  refine e_getr 16 dX8_anew_13 lf_X8_7 rfl rfl rfl (by decide) hr.ys ?_
  refine e_iconst 17 hic_2 dX8_anew_16 rfl ?_
  refine e_iconst 18 hic_0 dX8_anew_17 rfl ?_
  refine e_iast 19 dX8_anew_18 rfl rfl (by decide) rfl (by show 2 < 2950; decide) ?_
  have fp : zFs9 (zp m1 225 2 (nI 0)) m1 := zFs9.p
  refine e_aload_n 20 dX8_anew_19 rfl rfl ?_
  refine c_Vv 23 (ci := 8) dX8_anew_20 (k_X8_begins G hr (hd.s fp) hW (S := zS0) (zYsg_0 (zp_s _ _ _ _)) (zS0_W _ _)) lm_X8_150 zi_yX8_begins zs_yX8_begins rfl rfl (by decide) rfl rfl rfl (Nat.le_of_ble_eq_true rfl) (Nat.le_of_ble_eq_true rfl) (Nat.le_of_ble_eq_true rfl) (by exact Nat.le_refl _) (by exact Nat.le_refl _) ?_
  rintro u2 _ _ ⟨f2, e2, y2, s2, rfl, rfl⟩
  refine e_iload_n 24 dX8_anew_23 rfl rfl ?_
  refine e_ireturn .int dX8_anew_24 rfl rfl ?_
  have ff : zFrm u2 m1 := (f2.t fp).v
  exact ⟨_, rfl, rfl, hY.mom ff ⟨y2, (e2 1 (by decide) (by decide)).trans ((zp_k _ _ (by decide)).trans hs.2.1), (zYsg_0 (zp_s _ _ _ _)).c (Nat.zero_le _) e2, s2⟩, fun q hq => (ff.lo hq).trans (hfr q (by omega)), rfl, rfl⟩

set_option maxHeartbeats 4000000 in
set_option maxRecDepth 100000 in
theorem l_X8_go (G : zG) (d : Nat) (Q : zQ) {D E : Nat} {Λ : zLd} {mi : zFi} {ml : zFl} {mr : zFr} (hr : zRf mr D E) (hW : zLandW Λ) {n K : Nat} : ∀ (k i : Nat) (m : zMo) (u : zFi), i + k = K → (m.1 + k ≤ 99 ∧ K ≤ n ∧ n ≤ 99 ∧ (K < n → m.1 + k = 99)) → zFrm u mi → zYd u Λ → zYs (u 225) Λ m → zMoW Λ m → (∀ u2, zFrm u2 mi → zYs (u2 225) Λ (zYears Λ k m) → Q (some (.int (nI K))) u2 ml mr) → zE G (zRm (d + 6) 238 238) (zQm G 238 238 Q) yX8_go.cls yX8_go.name cX8_go 3 (some .int) 238 33 [.ref 224, .int (nI n), .int (nI i)] [] 238 u ml mr := by
  intro k
  induction k with
  | zero =>
    intro i m u h hb hf hd hs hm hQ
    have hy99 := hm.1
    obtain ⟨hb1, hb2, hb3, hb4⟩ := hb
    refine e_iload_n 34 dX8_go_33 rfl rfl ?_
    refine e_iload_n 35 dX8_go_34 rfl rfl ?_
    refine e_icmp_geN 59 38 dX8_go_35 (by decide) rfl (by omega) (by omega) (fun h35 => ?_) (fun h35 => ?_)
    · refine e_iload_n 60 dX8_go_59 rfl rfl ?_
      refine e_ireturn .int dX8_go_60 rfl rfl ?_
      have e : i = K := by omega
      subst e
      exact hQ u hf hs
    · refine e_aload_n 39 dX8_go_38 rfl rfl ?_
      refine e_getr 42 dX8_go_39 lf_X8_7 rfl rfl rfl (by decide) hr.ys ?_
      refine e_iconst 43 hic_0 dX8_go_42 rfl ?_
      refine e_iald (v := nI m.1) 44 dX8_go_43 rfl rfl (by decide) rfl (by show 0 < 2950; omega) hs.1 ?_
      refine e_bipush 46 hbi_99 dX8_go_44 rfl ?_
      refine e_icmp_geN 59 49 dX8_go_46 (by decide) rfl (by omega) (by omega) (fun h46 => ?_) (fun h46 => ?_)
      · refine e_iload_n 60 dX8_go_59 rfl rfl ?_
        refine e_ireturn .int dX8_go_60 rfl rfl ?_
        have e : i = K := by omega
        subst e
        exact hQ u hf hs
      · exact absurd h46 (by omega)
  | succ k ih =>
    intro i m u h hb hf hd hs hm hQ
    have hy99 := hm.1
    obtain ⟨hb1, hb2, hb3, hb4⟩ := hb
    refine e_iload_n 34 dX8_go_33 rfl rfl ?_
    refine e_iload_n 35 dX8_go_34 rfl rfl ?_
    refine e_icmp_geN 59 38 dX8_go_35 (by decide) rfl (by omega) (by omega) (fun h35 => ?_) (fun h35 => ?_)
    · exact absurd h35 (by omega)
    · refine e_aload_n 39 dX8_go_38 rfl rfl ?_
      refine e_getr 42 dX8_go_39 lf_X8_7 rfl rfl rfl (by decide) hr.ys ?_
      refine e_iconst 43 hic_0 dX8_go_42 rfl ?_
      refine e_iald (v := nI m.1) 44 dX8_go_43 rfl rfl (by decide) rfl (by show 0 < 2950; omega) hs.1 ?_
      refine e_bipush 46 hbi_99 dX8_go_44 rfl ?_
      refine e_icmp_geN 59 49 dX8_go_46 (by decide) rfl (by omega) (by omega) (fun h46 => ?_) (fun h46 => ?_)
      · exact absurd h46 (by omega)
      · refine e_aload_n 50 dX8_go_49 rfl rfl ?_
        refine c_Vv 53 (ci := 8) dX8_go_50 (k_X8_goesBy G hr hd hW hs hm (by omega)) lm_X8_187 zi_yX8_goesBy zs_yX8_goesBy rfl rfl (by decide) rfl rfl rfl (Nat.le_of_ble_eq_true rfl) (Nat.le_of_ble_eq_true rfl) (Nat.le_of_ble_eq_true rfl) (by exact Nat.le_refl _) (by exact Nat.le_refl _) ?_
        rintro u2 _ _ ⟨f2, s2, rfl, rfl⟩
        refine e_iinc 56 dX8_go_53 rfl (by decide) rfl (z_inc hii_1) (zst1_2 rfl) ?_
        refine e_goto 33 dX8_go_56 (by decide) ?_
        exact ih (i + 1) (zYear Λ m) u2 (by omega) ⟨by show m.1 + 1 + k ≤ 99; omega, hb2, hb3, fun z => by show m.1 + 1 + k = 99; have := hb4 z; omega⟩ (f2.t hf) (hd.v f2) s2 (zYear_W hW hm (by omega)) hQ
set_option maxHeartbeats 4000000 in
set_option maxRecDepth 100000 in
theorem k_X8_go (G : zG) {D E : Nat} {Λ : zLd} {late : Nat} {tr : Int64} {t : zTx} {m : zMo} {im : Nat → Nat × zMo} {l : zLt} {r : zWr} {mi : zFi} {ml : zFl} {mr : zFr} (hr : zRf mr D E) (hY : zY mi ml Λ late tr t m im l r) (hF : zWf Λ late t m im l r) {n : Int32} : zMet G 6 yX8_go cX8_go 3 (some .int) [.ref 224, .int n] 238 mi ml mr 238 (zPi fun x u b c => x = sGo m n ∧ zY u b Λ late tr t (sGoM Λ m n) im l r ∧ (∀ q, q < 224 → u q = mi q) ∧ b = ml ∧ c = mr) := by
  obtain ⟨hW, hla30, htw, hmw, himw, hlw, hrw⟩ := id hF
  have hP3 := hW.1.1
  have hW5 := hW.1.2.1
  have hy99 := hmw.1
  refine z_intro ([.ref 224, .int n, zx]) (by decide) rfl (Nat.le_of_ble_eq_true rfl) ?_
  refine e_aload_n 1 dX8_go_0 rfl rfl ?_
  refine e_iconst 2 hic_0 dX8_go_1 rfl ?_
  refine e_puti 5 dX8_go_2 lf_X8_56 rfl rfl rfl rfl rfl (by decide) ?_
  obtain ⟨m1, em, hfr⟩ : ∃ m1, m1 = zp mi 224 0 (nI 0) ∧ ∀ q, q ≠ 224 → m1 q = mi q := ⟨_, rfl, fun q hq => zp_r _ _ _ hq⟩
  have hY := hY.th (k := 0) (v := nI 0) (Or.inl rfl)
  rw [← em] at hY ⊢
  obtain ⟨hd, hlate, htr, ht, hs, him, hl, hw⟩ := id hY
  refine e_iload_n 6 dX8_go_5 rfl rfl ?_
  refine e_iconst 7 hic_1 dX8_go_6 rfl ?_
  refine e_bipush 9 hbi_99 dX8_go_7 rfl ?_
  refine c_Sqi 12 dX8_go_9 (k_X8_inN G (by decide) (by decide)) lm_X8_60 zt_yX8_in rfl rfl rfl (Nat.le_of_ble_eq_true rfl) (Nat.le_of_ble_eq_true rfl) (Nat.le_of_ble_eq_true rfl) (by exact Nat.le_refl _) (by exact Nat.le_refl _) ?_
  refine e_if_ne 17 15 dX8_go_12 (by decide) rfl (fun h12 => ?_) (fun h12 => ?_)
  · have h12 := zB_1 h12
    obtain ⟨en, hn1, hn2⟩ := h12.nat
    have eG : sGo m n = if 99 ≤ m.1 then -2 else nI (sGoN m n) := iteP h12
    have eM : sGoM Λ m n = if 99 ≤ m.1 then m else zYears Λ (sGoN m n) m := iteP h12
    rw [eG, eM]
    refine e_aload_n 18 dX8_go_17 rfl rfl ?_
    refine e_getr 21 dX8_go_18 lf_X8_7 rfl rfl rfl (by decide) hr.ys ?_
    refine e_iconst 22 hic_0 dX8_go_21 rfl ?_
    refine e_iald (v := nI m.1) 23 dX8_go_22 rfl rfl (by decide) rfl (by show 0 < 2950; omega) hs.1 ?_
    refine e_bipush 25 hbi_99 dX8_go_23 rfl ?_
    refine e_icmp_neN 31 28 dX8_go_25 (by decide) rfl (by omega) (by omega) (fun h25 => ?_) (fun h25 => ?_)
    · rw [if_neg (by omega), if_neg (by omega)]
      refine e_iconst 32 hic_0 dX8_go_31 rfl ?_
      refine e_istore_n 33 dX8_go_32 rfl (by decide) (zst1_2 rfl) ?_
      have hgn : sGoN m n = min (zK n) (99 - m.1) := rfl
      rw [hgn]
      clear eG eM h12
      generalize zK n = n9 at en hn1 hn2 hgn ⊢
      subst en
      exact l_X8_go G 0 _ hr hW (min n9 (99 - m.1)) 0 m m1 (by omega) ⟨by omega, by omega, by omega, fun _ => by omega⟩ (zFrm.r m1) hd hs hmw (fun u2 f2 s2 => ⟨_, rfl, rfl, hY.mom f2 s2, fun q hq => (f2.lo hq).trans (hfr q (by omega)), rfl, rfl⟩)
    · rw [if_pos (by omega), if_pos (by omega)]
      refine e_bipush 30 hbi_m2 dX8_go_28 rfl ?_
      refine e_ireturn .int dX8_go_30 rfl rfl ?_
      exact ⟨_, rfl, rfl, hY, fun q hq => hfr q (by omega), rfl, rfl⟩
  · have h12 := zB_0 h12
    have eG : sGo m n = -1 := iteN h12
    have eM : sGoM Λ m n = m := iteN h12
    rw [eG, eM]
    refine e_iconst 16 hic_m1 dX8_go_15 rfl ?_
    refine e_ireturn .int dX8_go_16 rfl rfl ?_
    exact ⟨_, rfl, rfl, hY, fun q hq => hfr q (by omega), rfl, rfl⟩

