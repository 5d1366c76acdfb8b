/-- the best so far, from -2 and from -9 as the ones for none -/
def zLkR (b c : zBe) : Prop := (b = (0, -2, -2) ∧ c = (0, -9, -9)) ∨ (b = c ∧ ∃ a, a ≤ 69 ∧ b.2.1 = nI a)
theorem zLkR.p {g : Nat → Nat} {a : Nat} (ha : a ≤ 69) : ∀ (k p : Nat) (b c : zBe), zLkR b c → zLkR (zLkP g a k p b) (zLkP g a k p c)
  | 0, _, _, _, h => h
  | k + 1, p, b, c, h => zLkR.p ha k (p + 1) _ _ (by
    have e : b.1 = c.1 := by
      rcases h with ⟨h1, h2⟩ | ⟨h1, -⟩
      · rw [h1, h2]
      · rw [h1]
    by_cases z : b.1 < g p
    · rw [if_pos z, if_pos (by omega)]
      exact Or.inr ⟨rfl, a, ha, rfl⟩
    · rw [if_neg z, if_neg (by omega)]
      exact h)
theorem zLkR.a {g : Nat → Nat → Nat} {N : Nat} : ∀ (k a : Nat) (b c : zBe), a + k = 70 → zLkR b c → zLkR (zLkA g N k a b) (zLkA g N k a c)
  | 0, _, _, _, _, h => h
  | k + 1, a, b, c, hk, h => zLkR.a k (a + 1) _ _ (by omega) (zLkR.p (by omega) N 0 b c h)
theorem zLkR.n {b c : zBe} (h : zLkR b c) : (c.2.1 = -9 → b.2.1 = -2 ∧ b.2.2 = -2) ∧ (¬ c.2.1 = -9 → b = c) := by
  rcases h with ⟨h1, h2⟩ | ⟨h1, a, ha, h3⟩
  · rw [h1, h2]
    exact ⟨fun _ => ⟨rfl, rfl⟩, fun z => absurd rfl z⟩
  · refine ⟨fun z => ?_, fun _ => h1⟩
    have h4 : nI a = -9 := by rw [← h3, h1, z]
    have h5 : (nI a).toInt = -9 := by rw [h4]; decide
    rw [nI_toInt (by omega)] at h5
    omega
set_option maxHeartbeats 4000000 in
set_option maxRecDepth 100000 in
theorem m_X8_likeliest (G : zG) (d : Nat) (Q : zQ) {D E : Nat} {Λ : zLd} {m : zMo} {mi : zFi} {ml : zFl} {mr : zFr} (hr : zRf mr D E) (hd : zYd mi Λ) (hW : zLandW Λ) (hs : zYs (mi 225) Λ m) (hmw : zMoW Λ m) {on nt what : Int32} {a : Nat} (ha1 : 10 ≤ a) (ha2 : a ≤ 69) : ∀ (k p : Nat) (b : zBe) (v10 v11 : Value), p + k = Λ 0 0 → b.1 ≤ 1000000000000000 → (∀ b' v10 v11, b' = zLkP (fun p => zWa Λ m on nt a p) a k p b → zE G (zRm (d + 2) 238 238) (zQm G 238 238 Q) yX8_likeliest.cls yX8_likeliest.name cX8_likeliest 12 (some .int) 238 88 [.ref 224, .int on, .int nt, .int what, .int b'.2.1, .int b'.2.2, .long (lN b'.1), zx, .int (nI a), .int (nI (Λ 0 0)), v10, v11] [] 238 mi ml mr) → zE G (zRm (d + 2) 238 238) (zQm G 238 238 Q) yX8_likeliest.cls yX8_likeliest.name cX8_likeliest 12 (some .int) 238 41 [.ref 224, .int on, .int nt, .int what, .int b.2.1, .int b.2.2, .long (lN b.1), zx, .int (nI a), .int (nI p), v10, v11] [] 238 mi ml mr := by
  intro k
  induction k with
  | zero =>
    intro p b v10 v11 h hb hQ
    have hP3 := hW.1.1
    have hW5 := hW.1.2.1
    refine e_iload 43 dX8_likeliest_41 rfl rfl ?_
    refine e_aload_n 44 dX8_likeliest_43 rfl rfl ?_
    refine e_geti 47 dX8_likeliest_44 lf_X8_138 rfl rfl rfl (by decide) hd.1.1 ?_
    refine e_icmp_geN 88 50 dX8_likeliest_47 (by decide) rfl (by omega) (by omega) (fun h47 => ?_) (fun h47 => ?_)
    · have ep : p = Λ 0 0 := by omega
      rw [ep]
      exact hQ b _ _ rfl
    · exact absurd h47 (by omega)
  | succ k ih =>
    intro p b v10 v11 h hb hQ
    have hP3 := hW.1.1
    have hW5 := hW.1.2.1
    have e0 : zLkP (fun p => zWa Λ m on nt a p) a (k + 1) p b = zLkP (fun p => zWa Λ m on nt a p) a k (p + 1) (if b.1 < zWa Λ m on nt a p then (zWa Λ m on nt a p, nI a, nI p) else b) := rfl
    rw [e0] at hQ
    refine e_iload 43 dX8_likeliest_41 rfl rfl ?_
    refine e_aload_n 44 dX8_likeliest_43 rfl rfl ?_
    refine e_geti 47 dX8_likeliest_44 lf_X8_138 rfl rfl rfl (by decide) hd.1.1 ?_
    refine e_icmp_geN 88 50 dX8_likeliest_47 (by decide) rfl (by omega) (by omega) (fun h47 => ?_) (fun h47 => ?_)
    · exact absurd h47 (by omega)
    · refine e_aload_n 51 dX8_likeliest_50 rfl rfl ?_
      refine e_iload_n 52 dX8_likeliest_51 rfl rfl ?_
      refine e_iload_n 53 dX8_likeliest_52 rfl rfl ?_
      refine e_iload 55 dX8_likeliest_53 rfl rfl ?_
      refine e_iload 57 dX8_likeliest_55 rfl rfl ?_
      refine c_Vql 60 (ci := 8) dX8_likeliest_57 (k_X8_weight G hr hd hW ha1 ha2 h47 (fun w hw => (hs.2.2.2 w hw).1 p h47 a ha1 ha2) (fun w hw => (hmw.2.2 w hw).1.1 p h47 a ha1 ha2)) lm_X8_212 zi_yX8_weight zs_yX8_weight rfl rfl (by decide) rfl rfl rfl (Nat.le_of_ble_eq_true rfl) (Nat.le_of_ble_eq_true rfl) (Nat.le_of_ble_eq_true rfl) (by exact Nat.le_refl _) (by exact Nat.le_refl _) ?_
      have hwa : zWt (Λ 0 1) on nt (fun w => (m.2.2.2 w).1 p a) ≤ 1000000000000000 := zWa_le hW hmw ha1 ha2 h47
      refine e_lstore 62 dX8_likeliest_60 rfl (by decide) (zst2_10 rfl) ?_
      refine e_lload 64 dX8_likeliest_62 rfl rfl ?_
      refine e_lload 66 dX8_likeliest_64 rfl rfl ?_
      refine e_lcmp 67 dX8_likeliest_66 rfl ?_
      refine e_if_le 82 70 dX8_likeliest_67 (by decide) rfl (fun h67 => ?_) (fun h67 => ?_)
      · have h67 : ¬ b.1 < zWt (Λ 0 1) on nt (fun w => (m.2.2.2 w).1 p a) := mt ((lN_lt63 (by omega) (by omega)).1.mpr) (fun z => absurd ((lg_cmp_le _ _).mp h67) (Int64.not_le.mpr z))
        refine e_iinc 85 dX8_likeliest_82 rfl (by decide) rfl (z_inc hii_1) (zst1_9 rfl) ?_
        refine e_goto 41 dX8_likeliest_85 (by decide) ?_
        first
          | (rw [if_neg (show ¬ b.1 < zWa Λ m on nt a p from h67)] at hQ; exact ih (p + 1) b _ _ (by omega) hb hQ)
          | (rw [if_pos (show b.1 < zWa Λ m on nt a p from h67)] at hQ; exact ih (p + 1) (zWa Λ m on nt a p, nI a, nI p) _ _ (by omega) hwa hQ)
      · have h67 : b.1 < zWt (Λ 0 1) on nt (fun w => (m.2.2.2 w).1 p a) := (lN_lt63 (by omega) (by omega)).1.mp (Int64.not_le.mp (fun z => h67 ((lg_cmp_le _ _).mpr z)))
        refine e_lload 72 dX8_likeliest_70 rfl rfl ?_
        refine e_lstore 74 dX8_likeliest_72 rfl (by decide) (zst2_6 rfl) ?_
        refine e_iload 76 dX8_likeliest_74 rfl rfl ?_
        refine e_istore 78 dX8_likeliest_76 rfl (by decide) (zst1_4 rfl) ?_
        refine e_iload 80 dX8_likeliest_78 rfl rfl ?_
        refine e_istore 82 dX8_likeliest_80 rfl (by decide) (zst1_5 rfl) ?_
        refine e_iinc 85 dX8_likeliest_82 rfl (by decide) rfl (z_inc hii_1) (zst1_9 rfl) ?_
        refine e_goto 41 dX8_likeliest_85 (by decide) ?_
        first
          | (rw [if_neg (show ¬ b.1 < zWa Λ m on nt a p from h67)] at hQ; exact ih (p + 1) b _ _ (by omega) hb hQ)
          | (rw [if_pos (show b.1 < zWa Λ m on nt a p from h67)] at hQ; exact ih (p + 1) (zWa Λ m on nt a p, nI a, nI p) _ _ (by omega) hwa hQ)
set_option maxHeartbeats 4000000 in
set_option maxRecDepth 100000 in
theorem l_X8_likeliest (G : zG) (d : Nat) (Q : zQ) {D E : Nat} {Λ : zLd} {m : zMo} {mi : zFi} {ml : zFl} {mr : zFr} (hr : zRf mr D E) (hd : zYd mi Λ) (hW : zLandW Λ) (hs : zYs (mi 225) Λ m) (hmw : zMoW Λ m) {on nt what : Int32} : ∀ (k a : Nat) (b : zBe) (v9 v10 v11 : Value), 10 ≤ a → a + k = 70 → b.1 ≤ 1000000000000000 → (∀ v8 v9 v10 v11 b', b' = zLkA (zWa Λ m on nt) (Λ 0 0) k a b → zE G (zRm (d + 2) 238 238) (zQm G 238 238 Q) yX8_likeliest.cls yX8_likeliest.name cX8_likeliest 12 (some .int) 238 94 [.ref 224, .int on, .int nt, .int what, .int b'.2.1, .int b'.2.2, .long (lN b'.1), zx, v8, v9, v10, v11] [] 238 mi ml mr) → zE G (zRm (d + 2) 238 238) (zQm G 238 238 Q) yX8_likeliest.cls yX8_likeliest.name cX8_likeliest 12 (some .int) 238 31 [.ref 224, .int on, .int nt, .int what, .int b.2.1, .int b.2.2, .long (lN b.1), zx, .int (nI a), v9, v10, v11] [] 238 mi ml mr := by
  intro k
  induction k with
  | zero =>
    intro a b v9 v10 v11 h10 h hb hQ
    have hP3 := hW.1.1
    have hW5 := hW.1.2.1
    refine e_iload 33 dX8_likeliest_31 rfl rfl ?_
    refine e_bipush 35 hbi_70 dX8_likeliest_33 rfl ?_
    refine e_icmp_geN 94 38 dX8_likeliest_35 (by decide) rfl (by omega) (by omega) (fun h35 => ?_) (fun h35 => ?_)
    · exact hQ _ _ _ _ b rfl
    · exact absurd h35 (by omega)
  | succ k ih =>
    intro a b v9 v10 v11 h10 h hb hQ
    have hP3 := hW.1.1
    have hW5 := hW.1.2.1
    have e0 : zLkA (zWa Λ m on nt) (Λ 0 0) (k + 1) a b = zLkA (zWa Λ m on nt) (Λ 0 0) k (a + 1) (zLkP (fun p => zWa Λ m on nt a p) a (Λ 0 0) 0 b) := rfl
    rw [e0] at hQ
    refine e_iload 33 dX8_likeliest_31 rfl rfl ?_
    refine e_bipush 35 hbi_70 dX8_likeliest_33 rfl ?_
    refine e_icmp_geN 94 38 dX8_likeliest_35 (by decide) rfl (by omega) (by omega) (fun h35 => ?_) (fun h35 => ?_)
    · exact absurd h35 (by omega)
    · refine e_iconst 39 hic_0 dX8_likeliest_38 rfl ?_
      refine e_istore 41 dX8_likeliest_39 rfl (by decide) (zst1_9 rfl) ?_
      refine m_X8_likeliest G d Q hr hd hW hs hmw h10 (by omega) (Λ 0 0) 0 b _ _ (by omega) hb (fun b2 w10 w11 eb => ?_)
      have hb2 : b2.1 ≤ 1000000000000000 := by rw [eb]; exact zLkP_b _ _ _ (fun i _ h2 => zWa_le hW hmw h10 (by omega) (by omega)) hb
      rw [← eb] at hQ
      refine e_iinc 91 dX8_likeliest_88 rfl (by decide) rfl (z_inc hii_1) (zst1_8 rfl) ?_
      refine e_goto 31 dX8_likeliest_91 (by decide) ?_
      exact ih (a + 1) _ _ _ _ (by omega) (by omega) hb2 hQ
set_option maxHeartbeats 4000000 in
set_option maxRecDepth 100000 in
theorem k_X8_likeliest (G : zG) {D E : Nat} {Λ : zLd} {late : Nat} {tr : Int64} {t : zTx} {m : zMo} {im : Nat → Nat × zMo} {l : zLt} {r : zWr} {mi : zFi} {ml : zFl} {mr : zFr} (hr : zRf mr D E) (hY : zY mi ml Λ late tr t m im l r) (hF : zWf Λ late t m im l r) {on nt what : Int32} : zMet G 2 yX8_likeliest cX8_likeliest 12 (some .int) [.ref 224, .int on, .int nt, .int what] 238 mi ml mr 238 (zPi fun x u b c => x = sLikely Λ m on nt what ∧ zY u b Λ late tr t m im l r ∧ (∀ q, q < 224 → u q = mi q) ∧ b = ml ∧ c = mr) := by
  obtain ⟨hW, hla30, htw, hmw, himw, hlw, hrw⟩ := id hF
  have hP3 := hW.1.1
  have hW5 := hW.1.2.1
  have hy99 := hmw.1
  refine z_intro ([.ref 224, .int on, .int nt, .int what, zx, zx, zx, zx, zx, zx, zx, zx]) (by decide) rfl (Nat.le_of_ble_eq_true rfl) ?_
  refine e_aload_n 1 dX8_likeliest_0 rfl rfl ?_
  refine e_iconst 2 hic_0 dX8_likeliest_1 rfl ?_
  refine e_puti 5 dX8_likeliest_2 lf_X8_56 rfl rfl rfl rfl rfl (by decide) ?_
  obtain ⟨m1, em, hfr⟩ : ∃ m1, m1 = zp mi 224 0 (nI 0) ∧ ∀ q, q ≠ 224 → m1 q = mi q := ⟨_, rfl, fun q hq => zp_r _ _ _ hq⟩
  have hY := hY.th (k := 0) (v := nI 0) (Or.inl rfl)
  rw [← em] at hY ⊢
  obtain ⟨hd, hlate, htr, ht, hs, him, hl, hw⟩ := id hY
  refine e_iload_n 6 dX8_likeliest_5 rfl rfl ?_
  refine e_iconst 7 hic_0 dX8_likeliest_6 rfl ?_
  refine e_iconst 8 hic_1 dX8_likeliest_7 rfl ?_
  refine c_Sqi 11 dX8_likeliest_8 (k_X8_inN G (by decide) (by decide)) lm_X8_60 zt_yX8_in rfl rfl rfl (Nat.le_of_ble_eq_true rfl) (Nat.le_of_ble_eq_true rfl) (Nat.le_of_ble_eq_true rfl) (by exact Nat.le_refl _) (by exact Nat.le_refl _) ?_
  refine e_if_ne 16 14 dX8_likeliest_11 (by decide) rfl (fun h11 => ?_) (fun h11 => ?_)
  · have h11 := zB_1 h11
    obtain ⟨ewhat, hw9⟩ := h11.nat
    refine e_bipush 18 hbi_m9 dX8_likeliest_16 rfl ?_
    refine e_istore 20 dX8_likeliest_18 rfl (by decide) (zst1_4 rfl) ?_
    refine e_bipush 22 hbi_m9 dX8_likeliest_20 rfl ?_
    refine e_istore 24 dX8_likeliest_22 rfl (by decide) (zst1_5 rfl) ?_
    refine e_lconst 25 (v := lN 0) rfl dX8_likeliest_24 rfl ?_
    refine e_lstore 27 dX8_likeliest_25 rfl (by decide) (zst2_6 rfl) ?_
    refine e_bipush 29 hbi_10 dX8_likeliest_27 rfl ?_
    refine e_istore 31 dX8_likeliest_29 rfl (by decide) (zst1_8 rfl) ?_
    refine l_X8_likeliest G 0 _ hr hd hW hs hmw 60 10 (0, -9, -9) _ _ _ (by decide) (by decide) (by decide) (fun v8 w9 w10 w11 b' eb => ?_)
    have hR := (zLkR.a (g := zWa Λ m on nt) (N := Λ 0 0) 60 10 (0, -2, -2) (0, -9, -9) rfl (Or.inl ⟨rfl, rfl⟩)).n
    rw [← eb] at hR
    refine e_iload 96 dX8_likeliest_94 rfl rfl ?_
    refine e_bipush 98 hbi_m9 dX8_likeliest_96 rfl ?_
    refine e_icmp_ne 106 101 dX8_likeliest_98 (by decide) rfl (fun h98 => ?_) (fun h98 => ?_)
    · have eb9 := hR.2 h98
      refine e_iload_n 107 dX8_likeliest_106 rfl rfl ?_
      refine e_if_ne 115 110 dX8_likeliest_107 (by decide) rfl (fun h107 => ?_) (fun h107 => ?_)
      · have hk1 : ¬ zK what = 0 := fun z => h107 (by rw [ewhat, z]; rfl)
        refine e_iload 117 dX8_likeliest_115 rfl rfl ?_
        refine e_ireturn .int dX8_likeliest_117 rfl rfl ?_
        refine ⟨_, rfl, ((iteP h11).trans ?_).symm, hY, fun q hq => hfr q (by omega), rfl, rfl⟩
        first | (rw [if_pos hk0, eb9]) | (rw [if_neg hk1, eb9]) | (rw [eb9.1, eb9.2]; split <;> rfl)
      · have hk0 : zK what = 0 := by rw [show what = nI 0 from h107]; rfl
        refine e_iload 112 dX8_likeliest_110 rfl rfl ?_
        refine e_goto 117 dX8_likeliest_112 (by decide) ?_
        refine e_ireturn .int dX8_likeliest_117 rfl rfl ?_
        refine ⟨_, rfl, ((iteP h11).trans ?_).symm, hY, fun q hq => hfr q (by omega), rfl, rfl⟩
        first | (rw [if_pos hk0, eb9]) | (rw [if_neg hk1, eb9]) | (rw [eb9.1, eb9.2]; split <;> rfl)
    · have eb9 := hR.1 h98
      refine e_bipush 103 hbi_m2 dX8_likeliest_101 rfl ?_
      refine e_goto 117 dX8_likeliest_103 (by decide) ?_
      refine e_ireturn .int dX8_likeliest_117 rfl rfl ?_
      refine ⟨_, rfl, ((iteP h11).trans ?_).symm, hY, fun q hq => hfr q (by omega), rfl, rfl⟩
      first | (rw [if_pos hk0, eb9]) | (rw [if_neg hk1, eb9]) | (rw [eb9.1, eb9.2]; split <;> rfl)
  · have h11 := zB_0 h11
    refine e_iconst 15 hic_m1 dX8_likeliest_14 rfl ?_
    refine e_ireturn .int dX8_likeliest_15 rfl rfl ?_
    exact ⟨_, rfl, (iteN h11).symm, hY, fun q hq => hfr q (by omega), rfl, rfl⟩

