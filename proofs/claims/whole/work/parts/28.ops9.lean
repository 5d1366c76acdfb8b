/-- the best so far: weight, age, place as ints (-2: none) -/
abbrev zBe : Type := Nat × Int32 × Int32
def zLkP (g : Nat → Nat) (a : Nat) : Nat → Nat → zBe → zBe
  | 0, _, b => b
  | k + 1, p, b => zLkP g a k (p + 1) (if b.1 < g p then (g p, nI a, nI p) else b)
def zLkA (g : Nat → Nat → Nat) (N : Nat) : Nat → Nat → zBe → zBe
  | 0, _, b => b
  | k + 1, a, b => zLkA g N k (a + 1) (zLkP (g a) a N 0 b)
def sLikely (Λ : zLd) (m : zMo) (on nt what : Int32) : Int32 := @ite _ (vR what 0 1) (vR_dec _ _ _) (if zK what = 0 then (zLkA (zWa Λ m on nt) (Λ 0 0) 60 10 (0, -2, -2)).2.1 else (zLkA (zWa Λ m on nt) (Λ 0 0) 60 10 (0, -2, -2)).2.2) (-1)
theorem zLkP_b {g : Nat → Nat} {a M : Nat} : ∀ (k p : Nat) (b : zBe), (∀ i, p ≤ i → i < p + k → g i ≤ M) → b.1 ≤ M → (zLkP g a k p b).1 ≤ M
  | 0, _, _, _, h => h
  | k + 1, p, b, hg, h => zLkP_b k (p + 1) _ (fun i h1 h2 => hg i (by omega) (by omega)) (by
    split
    · exact hg p (Nat.le_refl p) (by omega)
    · exact h)
set_option maxHeartbeats 4000000 in
set_option maxRecDepth 100000 in
theorem m_X7_likeliest (G : zG) (d : Nat) (Q : zQ) {D E : Nat} {Λ : zLd} {late : Nat} {tr : Int64} {t : zTx} {m : zMo} {im : Nat → Nat × zMo} {l : zLt} {r : zWr} {mi : zFi} {ml : zFl} {mr : zFr} (hr : zRf mr D E) (hX : zX mi ml D Λ late tr t m im l r) (hF : zWf Λ late t m im l r) {on nt what : Int32} {a : Nat} (ha1 : 10 ≤ a) (ha2 : a ≤ 69) : ∀ (k p : Nat) (b : zBe) (v10 v11 : Value), p + k = Λ 0 0 → b.1 ≤ 1000000000000000 → (∀ b' v10 v11, b' = zLkP (fun p => zWa Λ m on nt a p) a k p b → zE G (zRm (d + 2) 238 238) (zQm G 238 238 Q) yX7_likeliest.cls yX7_likeliest.name cX7_likeliest 12 (some .int) 238 86 [.ref 0, .int on, .int nt, .int what, .long (lN b'.1), zx, .int b'.2.1, .int b'.2.2, .int (nI a), .int (nI (Λ 0 0)), v10, v11] [] 238 mi ml mr) → zE G (zRm (d + 2) 238 238) (zQm G 238 238 Q) yX7_likeliest.cls yX7_likeliest.name cX7_likeliest 12 (some .int) 238 36 [.ref 0, .int on, .int nt, .int what, .long (lN b.1), zx, .int b.2.1, .int b.2.2, .int (nI a), .int (nI p), v10, v11] [] 238 mi ml mr := by
  intro k
  induction k with
  | zero =>
    intro p b v10 v11 h hb hQ
    obtain ⟨hΛ, hlate, htr, ht, hm, him, hl, hw, hn72⟩ := id hX
    obtain ⟨hW, hla30, htw, hmw, himw, hlw, hrw⟩ := id hF
    have hP3 := hW.1.1
    have hW5 := hW.1.2.1
    have hy99 := hmw.1
    have hD9 := hr.Dl
    refine e_iload 38 dX7_likeliest_36 rfl rfl ?_
    refine e_aload_n 39 dX7_likeliest_38 rfl rfl ?_
    refine e_getr 42 dX7_likeliest_39 lf_X7_62 rfl rfl rfl (by decide) hr.land ?_
    refine e_geti 45 dX7_likeliest_42 lf_X7_184 rfl rfl hr.dD.k0 hr.dD.l0 (hΛ.f0) ?_
    refine e_icmp_geN 86 48 dX7_likeliest_45 (by decide) rfl (by omega) (by omega) (fun h45 => ?_) (fun h45 => ?_)
    · have ep : p = Λ 0 0 := by omega
      rw [ep]
      exact hQ b _ _ rfl
    · exact absurd h45 (by omega)
  | succ k ih =>
    intro p b v10 v11 h hb hQ
    obtain ⟨hΛ, hlate, htr, ht, hm, him, hl, hw, hn72⟩ := id hX
    obtain ⟨hW, hla30, htw, hmw, himw, hlw, hrw⟩ := id hF
    have hP3 := hW.1.1
    have hW5 := hW.1.2.1
    have hy99 := hmw.1
    have hD9 := hr.Dl
    have e0 : zLkP (fun p => zWa Λ m on nt a p) a (k + 1) p b = zLkP (fun p => zWa Λ m on nt a p) a k (p + 1) (if b.1 < zWa Λ m on nt a p then (zWa Λ m on nt a p, nI a, nI p) else b) := rfl
    rw [e0] at hQ
    refine e_iload 38 dX7_likeliest_36 rfl rfl ?_
    refine e_aload_n 39 dX7_likeliest_38 rfl rfl ?_
    refine e_getr 42 dX7_likeliest_39 lf_X7_62 rfl rfl rfl (by decide) hr.land ?_
    refine e_geti 45 dX7_likeliest_42 lf_X7_184 rfl rfl hr.dD.k0 hr.dD.l0 (hΛ.f0) ?_
    refine e_icmp_geN 86 48 dX7_likeliest_45 (by decide) rfl (by omega) (by omega) (fun h45 => ?_) (fun h45 => ?_)
    · exact absurd h45 (by omega)
    · refine e_aload_n 49 dX7_likeliest_48 rfl rfl ?_
      refine e_iload_n 50 dX7_likeliest_49 rfl rfl ?_
      refine e_iload_n 51 dX7_likeliest_50 rfl rfl ?_
      refine e_iload 53 dX7_likeliest_51 rfl rfl ?_
      refine e_iload 55 dX7_likeliest_53 rfl rfl ?_
      refine c_Vql 58 (ci := 7) dX7_likeliest_55 (k_X7_weight G hr hX hF ha1 ha2 h45) lm_X7_219 zi_yX7_weight zs_yX7_weight rfl (by first | rfl | assumption) (by first | decide | omega) rfl rfl rfl (Nat.le_of_ble_eq_true rfl) (Nat.le_of_ble_eq_true rfl) (Nat.le_of_ble_eq_true rfl) (by exact Nat.le_refl _) (by exact Nat.le_refl _) ?_
      have hwa : zWt (Λ 0 1) on nt (fun w => (m.2.2.2 w).1 p a) ≤ 1000000000000000 := zWa_le hW hmw ha1 ha2 h45
      refine e_lstore 60 dX7_likeliest_58 rfl (by decide) (zst2_10 rfl) ?_
      refine e_lload 62 dX7_likeliest_60 rfl rfl ?_
      refine e_lload 64 dX7_likeliest_62 rfl rfl ?_
      refine e_lcmp 65 dX7_likeliest_64 rfl ?_
      refine e_if_le 80 68 dX7_likeliest_65 (by decide) rfl (fun h65 => ?_) (fun h65 => ?_)
      · have h65 := mt ((lN_lt63 (by omega) (by omega)).1.mpr) (fun z => absurd ((lg_cmp_le _ _).mp h65) (Int64.not_le.mpr z))
        refine e_iinc 83 dX7_likeliest_80 rfl (by decide) rfl (z_inc hii_1) (zst1_9 rfl) ?_
        refine e_goto 36 dX7_likeliest_83 (by decide) ?_
        first
          | (rw [if_neg (show ¬ b.1 < zWa Λ m on nt a p from h65)] at hQ; exact ih (p + 1) b _ _ (by omega) hb hQ)
          | (rw [if_pos (show b.1 < zWa Λ m on nt a p from h65)] at hQ; exact ih (p + 1) (zWa Λ m on nt a p, nI a, nI p) _ _ (by omega) hwa hQ)
      · have h65 : b.1 < zWt (Λ 0 1) on nt (fun w => (m.2.2.2 w).1 p a) := (lN_lt63 (by omega) (by omega)).1.mp (Int64.not_le.mp (fun z => h65 ((lg_cmp_le _ _).mpr z)))
        refine e_lload 70 dX7_likeliest_68 rfl rfl ?_
        refine e_lstore 72 dX7_likeliest_70 rfl (by decide) (zst2_4 rfl) ?_
        refine e_iload 74 dX7_likeliest_72 rfl rfl ?_
        refine e_istore 76 dX7_likeliest_74 rfl (by decide) (zst1_6 rfl) ?_
        refine e_iload 78 dX7_likeliest_76 rfl rfl ?_
        refine e_istore 80 dX7_likeliest_78 rfl (by decide) (zst1_7 rfl) ?_
        refine e_iinc 83 dX7_likeliest_80 rfl (by decide) rfl (z_inc hii_1) (zst1_9 rfl) ?_
        refine e_goto 36 dX7_likeliest_83 (by decide) ?_
        first
          | (rw [if_neg (show ¬ b.1 < zWa Λ m on nt a p from h65)] at hQ; exact ih (p + 1) b _ _ (by omega) hb hQ)
          | (rw [if_pos (show b.1 < zWa Λ m on nt a p from h65)] at hQ; exact ih (p + 1) (zWa Λ m on nt a p, nI a, nI p) _ _ (by omega) hwa hQ)
set_option maxHeartbeats 4000000 in
set_option maxRecDepth 100000 in
theorem l_X7_likeliest (G : zG) (d : Nat) (Q : zQ) {D E : Nat} {Λ : zLd} {late : Nat} {tr : Int64} {t : zTx} {m : zMo} {im : Nat → Nat × zMo} {l : zLt} {r : zWr} {mi : zFi} {ml : zFl} {mr : zFr} (hr : zRf mr D E) (hX : zX mi ml D Λ late tr t m im l r) (hF : zWf Λ late t m im l r) {on nt what : Int32} : ∀ (k a : Nat) (b : zBe) (v9 v10 v11 : Value), 10 ≤ a → a + k = 70 → b.1 ≤ 1000000000000000 → (∀ v8 v9 v10 v11 b', b' = zLkA (zWa Λ m on nt) (Λ 0 0) k a b → zE G (zRm (d + 2) 238 238) (zQm G 238 238 Q) yX7_likeliest.cls yX7_likeliest.name cX7_likeliest 12 (some .int) 238 92 [.ref 0, .int on, .int nt, .int what, .long (lN b'.1), zx, .int b'.2.1, .int b'.2.2, v8, v9, v10, v11] [] 238 mi ml mr) → zE G (zRm (d + 2) 238 238) (zQm G 238 238 Q) yX7_likeliest.cls yX7_likeliest.name cX7_likeliest 12 (some .int) 238 26 [.ref 0, .int on, .int nt, .int what, .long (lN b.1), zx, .int b.2.1, .int b.2.2, .int (nI a), v9, v10, v11] [] 238 mi ml mr := by
  intro k
  induction k with
  | zero =>
    intro a b v9 v10 v11 h10 h hb hQ
    obtain ⟨hΛ, hlate, htr, ht, hm, him, hl, hw, hn72⟩ := id hX
    obtain ⟨hW, hla30, htw, hmw, himw, hlw, hrw⟩ := id hF
    have hP3 := hW.1.1
    have hW5 := hW.1.2.1
    have hy99 := hmw.1
    have hD9 := hr.Dl
    refine e_iload 28 dX7_likeliest_26 rfl rfl ?_
    refine e_bipush 30 hbi_69 dX7_likeliest_28 rfl ?_
    refine e_icmp_gtN 92 33 dX7_likeliest_30 (by decide) rfl (by omega) (by omega) (fun h30 => ?_) (fun h30 => ?_)
    · exact hQ _ _ _ _ b rfl
    · exact absurd h30 (by omega)
  | succ k ih =>
    intro a b v9 v10 v11 h10 h hb hQ
    obtain ⟨hΛ, hlate, htr, ht, hm, him, hl, hw, hn72⟩ := id hX
    obtain ⟨hW, hla30, htw, hmw, himw, hlw, hrw⟩ := id hF
    have hP3 := hW.1.1
    have hW5 := hW.1.2.1
    have hy99 := hmw.1
    have hD9 := hr.Dl
    have e0 : zLkA (zWa Λ m on nt) (Λ 0 0) (k + 1) a b = zLkA (zWa Λ m on nt) (Λ 0 0) k (a + 1) (zLkP (fun p => zWa Λ m on nt a p) a (Λ 0 0) 0 b) := rfl
    rw [e0] at hQ
    refine e_iload 28 dX7_likeliest_26 rfl rfl ?_
    refine e_bipush 30 hbi_69 dX7_likeliest_28 rfl ?_
    refine e_icmp_gtN 92 33 dX7_likeliest_30 (by decide) rfl (by omega) (by omega) (fun h30 => ?_) (fun h30 => ?_)
    · exact absurd h30 (by omega)
    · refine e_iconst 34 hic_0 dX7_likeliest_33 rfl ?_
      refine e_istore 36 dX7_likeliest_34 rfl (by decide) (zst1_9 rfl) ?_
      refine m_X7_likeliest G _ _ hr hX hF h10 (by omega) (Λ 0 0) 0 b _ _ (by omega) hb (fun b2 w10 w11 eb => ?_)
      have hb2 : b2.1 ≤ 1000000000000000 := by rw [eb]; exact zLkP_b _ _ _ (fun i _ h2 => zWa_le hW hmw h10 (by omega) (by omega)) hb
      rw [← eb] at hQ
      refine e_iinc 89 dX7_likeliest_86 rfl (by decide) rfl (z_inc hii_1) (zst1_8 rfl) ?_
      refine e_goto 26 dX7_likeliest_89 (by decide) ?_
      exact ih (a + 1) _ _ _ _ (by omega) (by omega) hb2 hQ
set_option maxHeartbeats 4000000 in
set_option maxRecDepth 100000 in
theorem k_X7_likeliest (G : zG) {D E : Nat} {Λ : zLd} {late : Nat} {tr : Int64} {t : zTx} {m : zMo} {im : Nat → Nat × zMo} {l : zLt} {r : zWr} {mi : zFi} {ml : zFl} {mr : zFr} (hr : zRf mr D E) (hX : zX mi ml D Λ late tr t m im l r) (hF : zWf Λ late t m im l r) {on nt what : Int32} : zMet G 2 yX7_likeliest cX7_likeliest 12 (some .int) [.ref 0, .int on, .int nt, .int what] 238 mi ml mr 238 (zPq (some (.int (sLikely Λ m on nt what))) mi ml mr) := by
  obtain ⟨hΛ, hlate, htr, ht, hm, him, hl, hw, hn72⟩ := id hX
  obtain ⟨hW, hla30, htw, hmw, himw, hlw, hrw⟩ := id hF
  have hP3 := hW.1.1
  have hW5 := hW.1.2.1
  have hy99 := hmw.1
  have hD9 := hr.Dl
  refine z_intro ([.ref 0, .int on, .int nt, .int what, zx, zx, zx, zx, zx, zx, zx, zx]) (by decide) rfl (Nat.le_of_ble_eq_true rfl) ?_
  refine e_iload_n 1 dX7_likeliest_0 rfl rfl ?_
  refine e_iconst 2 hic_0 dX7_likeliest_1 rfl ?_
  refine e_iconst 3 hic_1 dX7_likeliest_2 rfl ?_
  refine c_Sqi 6 dX7_likeliest_3 (k_X7_btw G (by decide) (by decide)) lm_X7_80 zt_yX7_between rfl rfl rfl (Nat.le_of_ble_eq_true rfl) (Nat.le_of_ble_eq_true rfl) (Nat.le_of_ble_eq_true rfl) (by exact Nat.le_refl _) (by exact Nat.le_refl _) ?_
  refine e_if_ne 11 9 dX7_likeliest_6 (by decide) rfl (fun h6 => ?_) (fun h6 => ?_)
  · have h6 := zB_1 h6
    obtain ⟨ew, hw9⟩ := h6.nat
    refine e_lconst 12 (v := lN 0) rfl dX7_likeliest_11 rfl ?_
    refine e_lstore 14 dX7_likeliest_12 rfl (by decide) (zst2_4 rfl) ?_
    refine e_bipush 16 hbi_m2 dX7_likeliest_14 rfl ?_
    refine e_istore 18 dX7_likeliest_16 rfl (by decide) (zst1_6 rfl) ?_
    refine e_bipush 20 hbi_m2 dX7_likeliest_18 rfl ?_
    refine e_istore 22 dX7_likeliest_20 rfl (by decide) (zst1_7 rfl) ?_
    refine e_bipush 24 hbi_10 dX7_likeliest_22 rfl ?_
    refine e_istore 26 dX7_likeliest_24 rfl (by decide) (zst1_8 rfl) ?_
    rw [ew]
    refine l_X7_likeliest G _ _ hr hX hF 60 10 (0, -2, -2) _ _ _ (by decide) (by decide) (by decide) (fun v8 w9 w10 w11 b' eb => ?_)
    refine e_iload_n 93 dX7_likeliest_92 rfl rfl ?_
    refine e_if_neN 101 96 dX7_likeliest_93 (by decide) rfl (by omega) (fun h93 => ?_) (fun h93 => ?_)
    · refine e_iload 103 dX7_likeliest_101 rfl rfl ?_
      refine e_ireturn .int dX7_likeliest_103 rfl rfl ?_
      rw [← ew]
      refine ⟨someI ((iteP h6).trans ?_), rfl, rfl, rfl⟩
      rw [← eb]
      first | rw [if_pos h93] | rw [if_neg (by omega)]
    · refine e_iload 98 dX7_likeliest_96 rfl rfl ?_
      refine e_goto 103 dX7_likeliest_98 (by decide) ?_
      refine e_ireturn .int dX7_likeliest_103 rfl rfl ?_
      rw [← ew]
      refine ⟨someI ((iteP h6).trans ?_), rfl, rfl, rfl⟩
      rw [← eb]
      first | rw [if_pos h93] | rw [if_neg (by omega)]
  · have h6 := zB_0 h6
    refine e_iconst 10 hic_m1 dX7_likeliest_9 rfl ?_
    refine e_ireturn .int dX7_likeliest_10 rfl rfl ?_
    exact ⟨someI (iteN h6), rfl, rfl, rfl⟩

