theorem zDrE_r (s : Int32) : (s >>> (nI 16 &&& 31)) &&& nI 65535 = zDrE s := by
  have e16 : (nI 16 &&& 31 : Int32) = 16 := by decide
  have e17 : ((nI 16).toUInt32 &&& Int32.toUInt32 31 : UInt32) = 16 := by decide
  unfold zDrE
  rw [e16, e17]
  apply Int32.toBitVec_inj.mp
  rw [Int32.toBitVec_and, Int32.toBitVec_shiftRight]
  have e3 : ((s.toUInt32 >>> (16 : UInt32)).toInt32).toBitVec = s.toBitVec >>> 16 := by
    show (s.toUInt32 >>> (16 : UInt32)).toBitVec = _
    rw [UInt32.toBitVec_shiftRight]
    rfl
  rw [e3]
  have e4 : (BitVec.sshiftRight' s.toBitVec (Int32.toBitVec 16 |>.smod 32)) = s.toBitVec.sshiftRight 16 := by rfl
  rw [e4]
  apply BitVec.eq_of_getLsbD_eq
  intro i hi
  rw [BitVec.getLsbD_and, BitVec.getLsbD_sshiftRight, BitVec.getLsbD_ushiftRight]
  have e5 : (nI 65535).toBitVec = (65535 : BitVec 32) := rfl
  rw [e5]
  by_cases h : i < 16
  · have e6 : (65535 : BitVec 32).getLsbD i = true := by
      have : ∀ i, i < 16 → (65535 : BitVec 32).getLsbD i = true := by decide
      exact this i h
    rw [e6]
    rw [Bool.and_true, if_pos (by omega), show decide (32 ≤ i) = false from decide_eq_false (by omega)]
    rfl
  · have e6 : (65535 : BitVec 32).getLsbD i = false := by
      have : ∀ i, i < 32 → 16 ≤ i → (65535 : BitVec 32).getLsbD i = false := by decide
      exact this i hi (by omega)
    rw [e6, Bool.and_false]
    symm
    apply BitVec.getLsbD_of_ge
    omega
theorem zYsg.add {F1 F2 : Nat → Int32} {S : zLd} {y w p g : Nat} (h : zYsg F1 S) (a0 : F2 2 = nI (S 0 0 + 1)) (a1 : F2 (3 + 4 * S 0 0) = nI y) (a2 : F2 (3 + 4 * S 0 0 + 1) = nI w) (a3 : F2 (3 + 4 * S 0 0 + 2) = nI p) (a4 : F2 (3 + 4 * S 0 0 + 3) = nI g) (e : ∀ k, 3 ≤ k → k < 3 + 4 * S 0 0 → F2 k = F1 k) : zYsg F2 (zSongAdd S y w p g) := by
  refine ⟨by rw [zSongAdd_0]; exact a0, fun i hi => ?_⟩
  rw [zSongAdd_0] at hi
  show F2 (3 + 4 * i) = nI (zu (S 1) (S 0 0) y i) ∧ F2 (3 + 4 * i + 1) = nI (zu (S 2) (S 0 0) w i) ∧ F2 (3 + 4 * i + 2) = nI (zu (S 3) (S 0 0) p i) ∧ F2 (3 + 4 * i + 3) = nI (zu (S 4) (S 0 0) g i)
  by_cases q : i = S 0 0
  · rw [q, zu_s, zu_s, zu_s, zu_s]
    exact ⟨a1, a2, a3, a4⟩
  · rw [zu_n _ _ q, zu_n _ _ q, zu_n _ _ q, zu_n _ _ q, e _ (by omega) (by omega), e _ (by omega) (by omega), e _ (by omega) (by omega), e _ (by omega) (by omega)]
    exact h.2 i (by omega)
theorem zYno.fine {F : Nat → Int32} {N v y : Nat} {x : zSt} (h : zYno F N v y (zNote N y x.1 x.2.1 x.2.2).2.1 (zNote N y x.1 x.2.1 x.2.2).2.2) (hf : zFine N y x) : zYno F N v y x.2.1 x.2.2 := by
  refine ⟨fun p hp t ht => ?_, fun t ht => ?_⟩
  · rw [h.1 p hp t ht]
    show nI (zu (x.2.1 p) y (zYoung (x.1 p)) t) = _
    by_cases e : t = y
    · rw [e, zu_s, hf.1 p hp]
    · rw [zu_n _ _ e]
  · rw [h.2 t ht]
    show nI (zu x.2.2 y (zsum (fun p => zPar (x.1 p)) 0 N / N) t) = _
    by_cases e : t = y
    · rw [e, zu_s, hf.2]
    · rw [zu_n _ _ e]
/-- the word's rows as they are with a song -/
def zSgN (m : zMo) (w p g : Nat) : Nat → Nat → Nat → Nat := zu (fun v => (m.2.2.2 v).1) w (zRaise p 13 19 (10 * g) (m.2.2.2 w).1)
theorem zSgN_w {m : zMo} {w p g : Nat} : zSgN m w p g w = zRaise p 13 19 (10 * g) (m.2.2.2 w).1 := zu_s _ _ _
theorem zSgN_n {m : zMo} {w p g v : Nat} (h : v ≠ w) : zSgN m w p g v = (m.2.2.2 v).1 := zu_n _ _ h
theorem zSgN_le {Λ : zLd} {m : zMo} {w p g : Nat} (hmw : zMoW Λ m) (hg : g ≤ 99) : ∀ v, v < Λ 0 1 → ∀ q, q < Λ 0 0 → zLe (zSgN m w p g v q) := fun v hv q hq => by
  by_cases e : v = w
  · rw [e] at hv ⊢
    rw [zSgN_w]
    exact zRaise_le (by omega) (hmw.2.2 w hv).1.1 q hq
  · rw [zSgN_n e]
    exact (hmw.2.2 v hv).1.1 q hq
theorem zYs.sung {F2 : Nat → Int32} {m2 m3 m4 : zFi} {Λ : zLd} {m : zMo} {w p g : Nat} (hmw : zMoW Λ m) (hn : m.2.2.1 0 0 < 10) (a0 : m2 225 0 = nI m.1) (a1 : m2 225 1 = m.2.1) (hsg : zYsg (m2 225) (zSongAdd m.2.2.1 m.1 w p g)) (h3 : zShI m2 m3 Λ (zSgN m w p g)) (k4 : ∀ k, k < 950 → m4 225 k = m3 225 k) (hW : zLandW Λ) (n4 : ∀ v, v < Λ 0 1 → zYno (m4 225) (Λ 0 0) v m.1 (zNote (Λ 0 0) m.1 (zSgN m w p g v) (m.2.2.2 v).2.1 (m.2.2.2 v).2.2).2.1 (zNote (Λ 0 0) m.1 (zSgN m w p g v) (m.2.2.2 v).2.1 (m.2.2.2 v).2.2).2.2) : zYs (m4 225) Λ (zSung Λ m w p g) := by
  have hP3 := hW.1.1
  have hW5 := hW.1.2.1
  refine ⟨(k4 0 (by decide)).trans ((h3.2.1 0 (by decide)).trans a0), (k4 1 (by decide)).trans ((h3.2.1 1 (by decide)).trans a1), hsg.c (by rw [zSongAdd_0]; omega) (fun k g1 g2 => (k4 k (by omega)).trans (h3.2.1 k (by omega))), fun v hv => ?_⟩
  have hrow : zYsh (m4 225) (Λ 0 0) v (zSgN m w p g v) := fun q hq a g1 g2 => by
    rw [k4 _ (by unfold zAt; omega)]
    exact h3.2.2 v hv q hq a g1 g2
  have hno := n4 v hv
  show zYsh _ _ v (zu m.2.2.2 w _ v).1 ∧ zYno _ _ v _ (zu m.2.2.2 w _ v).2.1 (zu m.2.2.2 w _ v).2.2
  by_cases e : v = w
  · rw [e] at hrow hno ⊢
    rw [zSgN_w] at hrow hno
    rw [zu_s]
    exact ⟨hrow, hno⟩
  · rw [zSgN_n e] at hrow hno
    rw [zu_n _ _ e]
    exact ⟨hrow, hno.fine (hmw.2.2 v hv).2⟩
set_option maxHeartbeats 4000000 in
set_option maxRecDepth 100000 in
theorem k_X8_song (G : zG) {D E : Nat} {Λ : zLd} {late : Nat} {tr : Int64} {t : zTx} {m : zMo} {im : Nat → Nat × zMo} {l : zLt} {r : zWr} {mi : zFi} {ml : zFl} {mr : zFr} (hr : zRf mr D E) (hY : zY mi ml Λ late tr t m im l r) (hF : zWf Λ late t m im l r) {w p g : Int32} : zMet G 4 yX8_song cX8_song 5 (some .int) [.ref 224, .int w, .int p, .int g] 238 mi ml mr 238 (zPi fun x u b c => x = sSong Λ m w p g ∧ zY u b Λ late tr t (sSongM Λ m w p g) im l r ∧ (∀ q, q < 224 → u q = mi q) ∧ b = ml ∧ c = mr) := by
  obtain ⟨hW, hla30, htw, hmw, himw, hlw, hrw⟩ := id hF
  have hP3 := hW.1.1
  have hW5 := hW.1.2.1
  have hy99 := hmw.1
  refine z_intro ([.ref 224, .int w, .int p, .int g, zx]) (by decide) rfl (Nat.le_of_ble_eq_true rfl) ?_
  refine e_aload_n 1 dX8_song_0 rfl rfl ?_
  refine e_iconst 2 hic_0 dX8_song_1 rfl ?_
  refine e_puti 5 dX8_song_2 lf_X8_56 rfl rfl rfl rfl rfl (by decide) ?_
  obtain ⟨m1, em, hfr⟩ : ∃ m1, m1 = zp mi 224 0 (nI 0) ∧ ∀ q, q ≠ 224 → m1 q = mi q := ⟨_, rfl, fun q hq => zp_r _ _ _ hq⟩
  have hY := hY.th (k := 0) (v := nI 0) (Or.inl rfl)
  rw [← em] at hY ⊢
  obtain ⟨hd, hlate, htr, ht, hs, him, hl, hw⟩ := id hY
  refine e_aload_n 6 dX8_song_5 rfl rfl ?_
  refine e_iload_n 7 dX8_song_6 rfl rfl ?_
  refine c_Vqi 10 (ci := 8) dX8_song_7 (k_X8_isWord G hr hd hW) lm_X8_156 zi_yX8_isWord zs_yX8_isWord rfl rfl (by decide) rfl rfl rfl (Nat.le_of_ble_eq_true rfl) (Nat.le_of_ble_eq_true rfl) (Nat.le_of_ble_eq_true rfl) (by exact Nat.le_refl _) (by exact Nat.le_refl _) ?_
  refine e_if_eq 31 13 dX8_song_10 (by decide) rfl (fun h10 => ?_) (fun h10 => ?_)
  · have h10 := zB_0 h10
    refine e_iconst 32 hic_m1 dX8_song_31 rfl ?_
    refine e_ireturn .int dX8_song_32 rfl rfl ?_
    have hno : ¬ sSongOk Λ w p g := fun q => by first | exact h10 q.1 | exact h18 q.2.1 | exact h28 q.2.2
    have e1 : sSong Λ m w p g = -1 := iteN hno
    have e2 : sSongM Λ m w p g = m := iteN hno
    rw [e1, e2]
    exact ⟨_, rfl, rfl, hY, fun q hq => hfr q (by omega), rfl, rfl⟩
  · have h10 := zB_1 h10
    obtain ⟨ew, hw9⟩ := h10.nat
    refine e_aload_n 14 dX8_song_13 rfl rfl ?_
    refine e_iload_n 15 dX8_song_14 rfl rfl ?_
    refine c_Vqi 18 (ci := 8) dX8_song_15 (k_X8_isPlace G hr hd hW) lm_X8_153 zi_yX8_isPlace zs_yX8_isPlace rfl rfl (by decide) rfl rfl rfl (Nat.le_of_ble_eq_true rfl) (Nat.le_of_ble_eq_true rfl) (Nat.le_of_ble_eq_true rfl) (by exact Nat.le_refl _) (by exact Nat.le_refl _) ?_
    refine e_if_eq 31 21 dX8_song_18 (by decide) rfl (fun h18 => ?_) (fun h18 => ?_)
    · have h18 := zB_0 h18
      refine e_iconst 32 hic_m1 dX8_song_31 rfl ?_
      refine e_ireturn .int dX8_song_32 rfl rfl ?_
      have hno : ¬ sSongOk Λ w p g := fun q => by first | exact h10 q.1 | exact h18 q.2.1 | exact h28 q.2.2
      have e1 : sSong Λ m w p g = -1 := iteN hno
      have e2 : sSongM Λ m w p g = m := iteN hno
      rw [e1, e2]
      exact ⟨_, rfl, rfl, hY, fun q hq => hfr q (by omega), rfl, rfl⟩
    · have h18 := zB_1 h18
      obtain ⟨ep, hp9⟩ := h18.nat
      refine e_iload_n 22 dX8_song_21 rfl rfl ?_
      refine e_iconst 23 hic_1 dX8_song_22 rfl ?_
      refine e_bipush 25 hbi_99 dX8_song_23 rfl ?_
      refine c_Sqi 28 dX8_song_25 (k_X8_inN G (by decide) (by decide)) lm_X8_60 zt_yX8_in rfl rfl rfl (Nat.le_of_ble_eq_true rfl) (Nat.le_of_ble_eq_true rfl) (Nat.le_of_ble_eq_true rfl) (by exact Nat.le_refl _) (by exact Nat.le_refl _) ?_
      refine e_if_ne 33 31 dX8_song_28 (by decide) rfl (fun h28 => ?_) (fun h28 => ?_)
      · have h28 := zB_1 h28
        obtain ⟨eg, hg9⟩ := h28.nat
        have e1 : sSong Λ m w p g = (if Λ 3 (zK w) ≤ m.1 then (if m.2.2.1 0 0 < 10 then nI (m.2.2.1 0 0 + 1) else -3) else -2) := iteP ⟨h10, h18, h28⟩
        have e2 : sSongM Λ m w p g = (if Λ 3 (zK w) ≤ m.1 then (if m.2.2.1 0 0 < 10 then zSung Λ m (zK w) (zK p) (zK g) else m) else m) := iteP ⟨h10, h18, h28⟩
        rw [e1, e2]
        clear e1 e2 h10 h18 h28
        generalize zK w = w9 at ew hw9 ⊢
        generalize zK p = p9 at ep hp9 ⊢
        generalize zK g = g9 at eg hg9 ⊢
        subst ew ep eg
        have hn10 := hmw.2.1.1
        refine e_aload_n 34 dX8_song_33 rfl rfl ?_
        refine e_iload_n 35 dX8_song_34 rfl rfl ?_
        refine c_Vqi 38 (ci := 8) dX8_song_35 (k_X8_isCoined G hr hd hW hw9 hs.1 hy99) lm_X8_159 zi_yX8_isCoined zs_yX8_isCoined rfl rfl (by decide) rfl rfl rfl (Nat.le_of_ble_eq_true rfl) (Nat.le_of_ble_eq_true rfl) (Nat.le_of_ble_eq_true rfl) (by exact Nat.le_refl _) (by exact Nat.le_refl _) ?_
        refine e_if_ne 44 41 dX8_song_38 (by decide) rfl (fun h38 => ?_) (fun h38 => ?_)
        · have h38 := zB_1 h38
          rw [if_pos h38, if_pos h38]
          refine e_aload_n 45 dX8_song_44 rfl rfl ?_
          refine e_getr 48 dX8_song_45 lf_X8_7 rfl rfl rfl (by decide) hr.ys ?_
          refine e_iconst 49 hic_2 dX8_song_48 rfl ?_
          refine e_iald (v := nI (m.2.2.1 0 0)) 50 dX8_song_49 rfl rfl (by decide) rfl (by show 2 < 2950; omega) hs.2.2.1.1 ?_
          refine e_bipush 52 hbi_10 dX8_song_50 rfl ?_
          refine e_icmp_neN 58 55 dX8_song_52 (by decide) rfl (by omega) (by omega) (fun h52 => ?_) (fun h52 => ?_)
          · have hn9 : m.2.2.1 0 0 < 10 := by omega
            rw [if_pos hn9, if_pos hn9]
            refine e_iconst 59 hic_3 dX8_song_58 rfl ?_
            refine e_iconst 60 hic_4 dX8_song_59 rfl ?_
            refine e_aload_n 61 dX8_song_60 rfl rfl ?_
            refine e_getr 64 dX8_song_61 lf_X8_7 rfl rfl rfl (by decide) hr.ys ?_
            refine e_iconst 65 hic_2 dX8_song_64 rfl ?_
            refine e_iald (v := nI (m.2.2.1 0 0)) 66 dX8_song_65 rfl rfl (by decide) rfl (by show 2 < 2950; omega) hs.2.2.1.1 ?_
            first | refine e_imulN 67 dX8_song_66 rfl ?_ | refine e_imul 67 dX8_song_66 rfl ?_
            first | refine e_iaddN 68 dX8_song_67 rfl ?_ | refine e_iadd 68 dX8_song_67 rfl ?_
            refine e_istore 70 dX8_song_68 rfl (by decide) (zst1_4 rfl) ?_
            refine e_aload_n 71 dX8_song_70 rfl rfl ?_
            refine e_getr 74 dX8_song_71 lf_X8_7 rfl rfl rfl (by decide) hr.ys ?_
            refine e_iload 76 dX8_song_74 rfl rfl ?_
            refine e_aload_n 77 dX8_song_76 rfl rfl ?_
            refine e_getr 80 dX8_song_77 lf_X8_7 rfl rfl rfl (by decide) hr.ys ?_
            refine e_iconst 81 hic_0 dX8_song_80 rfl ?_
            refine e_iald (v := nI m.1) 82 dX8_song_81 rfl rfl (by decide) rfl (by show 0 < 2950; omega) hs.1 ?_
            refine e_iast 83 dX8_song_82 rfl rfl (by decide) rfl (by show 3 + 4 * m.2.2.1 0 0 < 2950; omega) ?_
            refine e_aload_n 84 dX8_song_83 rfl rfl ?_
            refine e_getr 87 dX8_song_84 lf_X8_7 rfl rfl rfl (by decide) hr.ys ?_
            refine e_iload 89 dX8_song_87 rfl rfl ?_
            refine e_iconst 90 hic_1 dX8_song_89 rfl ?_
            first | refine e_iaddN 91 dX8_song_90 rfl ?_ | refine e_iadd 91 dX8_song_90 rfl ?_
            refine e_iload_n 92 dX8_song_91 rfl rfl ?_
            refine e_iast 93 dX8_song_92 rfl rfl (by decide) rfl (by show 3 + 4 * m.2.2.1 0 0 + 1 < 2950; omega) ?_
            refine e_aload_n 94 dX8_song_93 rfl rfl ?_
            refine e_getr 97 dX8_song_94 lf_X8_7 rfl rfl rfl (by decide) hr.ys ?_
            refine e_iload 99 dX8_song_97 rfl rfl ?_
            refine e_iconst 100 hic_2 dX8_song_99 rfl ?_
            first | refine e_iaddN 101 dX8_song_100 rfl ?_ | refine e_iadd 101 dX8_song_100 rfl ?_
            refine e_iload_n 102 dX8_song_101 rfl rfl ?_
            refine e_iast 103 dX8_song_102 rfl rfl (by decide) rfl (by show 3 + 4 * m.2.2.1 0 0 + 2 < 2950; omega) ?_
            refine e_aload_n 104 dX8_song_103 rfl rfl ?_
            refine e_getr 107 dX8_song_104 lf_X8_7 rfl rfl rfl (by decide) hr.ys ?_
            refine e_iload 109 dX8_song_107 rfl rfl ?_
            refine e_iconst 110 hic_3 dX8_song_109 rfl ?_
            first | refine e_iaddN 111 dX8_song_110 rfl ?_ | refine e_iadd 111 dX8_song_110 rfl ?_
            refine e_iload_n 112 dX8_song_111 rfl rfl ?_
            refine e_iast 113 dX8_song_112 rfl rfl (by decide) rfl (by show 3 + 4 * m.2.2.1 0 0 + 3 < 2950; omega) ?_
            refine e_aload_n 114 dX8_song_113 rfl rfl ?_
            refine e_getr 117 dX8_song_114 lf_X8_7 rfl rfl rfl (by decide) hr.ys ?_
            refine e_iconst 118 hic_2 dX8_song_117 rfl ?_
            refine e_dup2 119 dX8_song_118 rfl rfl rfl ?_
            refine e_iald (v := nI (m.2.2.1 0 0)) 120 dX8_song_119 rfl rfl (by decide) rfl (by show 2 < 2950; omega) (by rw [zp_k _ _ (by omega), zp_k _ _ (by omega), zp_k _ _ (by omega), zp_k _ _ (by omega)]; exact hs.2.2.1.1) ?_
            refine e_iconst 121 hic_1 dX8_song_120 rfl ?_
            first | refine e_iaddN 122 dX8_song_121 rfl ?_ | refine e_iadd 122 dX8_song_121 rfl ?_
            refine e_iast 123 dX8_song_122 rfl rfl (by decide) rfl (by show 2 < 2950; omega) ?_
            have hy2 : zFs9 (zp (zp (zp (zp (zp m1 225 (3 + 4 * m.2.2.1 0 0) (nI m.1)) 225 (3 + 4 * m.2.2.1 0 0 + 1) (nI w9)) 225 (3 + 4 * m.2.2.1 0 0 + 2) (nI p9)) 225 (3 + 4 * m.2.2.1 0 0 + 3) (nI g9)) 225 2 (nI (m.2.2.1 0 0 + 1))) m1 := ((((zFs9.p).t zFs9.p).t zFs9.p).t zFs9.p).t zFs9.p
            have hk2 : ∀ k, k ≠ 2 → (k < 3 + 4 * m.2.2.1 0 0 ∨ 3 + 4 * m.2.2.1 0 0 + 4 ≤ k) → (zp (zp (zp (zp (zp m1 225 (3 + 4 * m.2.2.1 0 0) (nI m.1)) 225 (3 + 4 * m.2.2.1 0 0 + 1) (nI w9)) 225 (3 + 4 * m.2.2.1 0 0 + 2) (nI p9)) 225 (3 + 4 * m.2.2.1 0 0 + 3) (nI g9)) 225 2 (nI (m.2.2.1 0 0 + 1))) 225 k = m1 225 k := fun k g1 g2 => by rw [zp_k _ _ (by omega), zp_k _ _ (by omega), zp_k _ _ (by omega), zp_k _ _ (by omega), zp_k _ _ (by omega)]
            have hsg : zYsg ((zp (zp (zp (zp (zp m1 225 (3 + 4 * m.2.2.1 0 0) (nI m.1)) 225 (3 + 4 * m.2.2.1 0 0 + 1) (nI w9)) 225 (3 + 4 * m.2.2.1 0 0 + 2) (nI p9)) 225 (3 + 4 * m.2.2.1 0 0 + 3) (nI g9)) 225 2 (nI (m.2.2.1 0 0 + 1))) 225) (zSongAdd m.2.2.1 m.1 w9 p9 g9) := hs.2.2.1.add (zp_s _ _ _ _) (by rw [zp_k _ _ (by omega), zp_k _ _ (by omega), zp_k _ _ (by omega), zp_k _ _ (by omega), zp_s]) (by rw [zp_k _ _ (by omega), zp_k _ _ (by omega), zp_k _ _ (by omega), zp_s]) (by rw [zp_k _ _ (by omega), zp_k _ _ (by omega), zp_s]) (by rw [zp_k _ _ (by omega), zp_s]) (fun k g1 g2 => hk2 k (by omega) (by omega))
            generalize (zp (zp (zp (zp (zp m1 225 (3 + 4 * m.2.2.1 0 0) (nI m.1)) 225 (3 + 4 * m.2.2.1 0 0 + 1) (nI w9)) 225 (3 + 4 * m.2.2.1 0 0 + 2) (nI p9)) 225 (3 + 4 * m.2.2.1 0 0 + 3) (nI g9)) 225 2 (nI (m.2.2.1 0 0 + 1))) = m2 at hy2 hk2 hsg ⊢
            have hd2 := hd.s hy2
            have a0 : m2 225 0 = nI m.1 := (hk2 0 (by decide) (by omega)).trans hs.1
            have a1 : m2 225 1 = m.2.1 := (hk2 1 (by decide) (by omega)).trans hs.2.1
            have hsh2 : ∀ v, v < Λ 0 1 → zYsh (m2 225) (Λ 0 0) v (m.2.2.2 v).1 := fun v hv q hq a g1 g2 => (hk2 _ (by unfold zAt; omega) (by unfold zAt; omega)).trans ((hs.2.2.2 v hv).1 q hq a g1 g2)
            refine e_aload_n 124 dX8_song_123 rfl rfl ?_
            refine e_iload_n 125 dX8_song_124 rfl rfl ?_
            refine e_iload_n 126 dX8_song_125 rfl rfl ?_
            refine e_iload_n 127 dX8_song_126 rfl rfl ?_
            refine c_Vv 130 (ci := 8) dX8_song_127 (k_X8_sings G hr hd2 hW a0 hy99 hw9 hp9 hg9.2 (f := (m.2.2.2 w9).1 p9) (fun x g1 g2 => hsh2 w9 hw9 p9 hp9 x g1 g2) ((hmw.2.2 w9 hw9).1.1 p9 hp9)) lm_X8_172 zi_yX8_sings zs_yX8_sings rfl rfl (by decide) rfl rfl rfl (Nat.le_of_ble_eq_true rfl) (Nat.le_of_ble_eq_true rfl) (Nat.le_of_ble_eq_true rfl) (by exact Nat.le_refl _) (by exact Nat.le_refl _) ?_
            rintro m3 _ _ ⟨s3, rfl, rfl⟩
            have s3 := s3.resolve_right (fun z => z.1 h38)
            have h3 : zShI m2 m3 Λ (zSgN m w9 p9 g9) := zShI.row (sh := fun v => (m.2.2.2 v).1) (a2 := 19) hW hw9 hp9 ⟨zFs9.r m2, fun _ _ => rfl, hsh2⟩ s3.2
            have hd3 := hd2.s h3.1
            refine e_aload_n 131 dX8_song_130 rfl rfl ?_
            refine c_Vv 134 (ci := 8) dX8_song_131 (k_X8_records G hr hd3 hW (y := m.1) ((h3.2.1 0 (by decide)).trans a0) hy99 (sh := zSgN m w9 p9 g9) (yg := fun v => (m.2.2.2 v).2.1) (pm := fun v => (m.2.2.2 v).2.2) h3.2.2 (zSgN_le hmw hg9.2) (fun v hv => ⟨fun q hq t9 ht9 => ((h3.2.1 _ (by unfold zYo; omega)).trans (hk2 _ (by unfold zYo; omega) (by unfold zYo; omega))).trans ((hs.2.2.2 v hv).2.1 q hq t9 (by omega)), fun t9 ht9 => ((h3.2.1 _ (by unfold zPa; omega)).trans (hk2 _ (by unfold zPa; omega) (by unfold zPa; omega))).trans ((hs.2.2.2 v hv).2.2 t9 (by omega))⟩)) lm_X8_176 zi_yX8_records zs_yX8_records rfl rfl (by decide) rfl rfl rfl (Nat.le_of_ble_eq_true rfl) (Nat.le_of_ble_eq_true rfl) (Nat.le_of_ble_eq_true rfl) (by exact Nat.le_refl _) (by exact Nat.le_refl _) ?_
            rintro m4 _ _ ⟨f4, k4, n4, rfl, rfl⟩
            have fr4 : zFs9 m4 m1 := f4.t (h3.1.t hy2)
            have hsF := zYs.sung (F2 := m2 225) hmw hn9 a0 a1 hsg h3 k4 hW n4
            refine e_aload_n 135 dX8_song_134 rfl rfl ?_
            refine e_getr 138 dX8_song_135 lf_X8_7 rfl rfl rfl (by decide) hr.ys ?_
            refine e_iconst 139 hic_2 dX8_song_138 rfl ?_
            refine e_iald (v := nI (m.2.2.1 0 0 + 1)) 140 dX8_song_139 rfl rfl (by decide) rfl (by show 2 < 2950; omega) (((k4 2 (by decide)).trans (h3.2.1 2 (by decide))).trans (hsg.1.trans (by rw [zSongAdd_0]))) ?_
            refine e_ireturn .int dX8_song_140 rfl rfl ?_
            exact ⟨_, rfl, rfl, hY.mom fr4.v hsF, fun q hq => (fr4 q (by omega)).trans (hfr q (by omega)), rfl, rfl⟩
          · rw [if_neg (by omega), if_neg (by omega)]
            refine e_bipush 57 hbi_m3 dX8_song_55 rfl ?_
            refine e_ireturn .int dX8_song_57 rfl rfl ?_
            exact ⟨_, rfl, rfl, hY, fun q hq => hfr q (by omega), rfl, rfl⟩
        · have h38 := zB_0 h38
          rw [if_neg h38, if_neg h38]
          refine e_bipush 43 hbi_m2 dX8_song_41 rfl ?_
          refine e_ireturn .int dX8_song_43 rfl rfl ?_
          exact ⟨_, rfl, rfl, hY, fun q hq => hfr q (by omega), rfl, rfl⟩
      · have h28 := zB_0 h28
        refine e_iconst 32 hic_m1 dX8_song_31 rfl ?_
        refine e_ireturn .int dX8_song_32 rfl rfl ?_
        have hno : ¬ sSongOk Λ w p g := fun q => by first | exact h10 q.1 | exact h18 q.2.1 | exact h28 q.2.2
        have e1 : sSong Λ m w p g = -1 := iteN hno
        have e2 : sSongM Λ m w p g = m := iteN hno
        rw [e1, e2]
        exact ⟨_, rfl, rfl, hY, fun q hq => hfr q (by omega), rfl, rfl⟩

set_option maxHeartbeats 4000000 in
set_option maxRecDepth 100000 in
theorem k_X8_mn (G : zG) {D E : Nat} {Λ : zLd} {m : zMo} {mi : zFi} {ml : zFl} {mr : zFr} (hr : zRf mr D E) (hd : zYd mi Λ) (hW : zLandW Λ) (hs : zYs (mi 225) Λ m) (hmw : zMoW Λ m) {w who : Nat} (hw : w < Λ 0 1) (hwho : who ≤ 2) : zMet G 2 yX8_mean cX8_mean 5 (some .int) [.ref 224, .int (nI w), .int (nI who)] 238 mi ml mr 238 (zPq (some (.int (nI (zMn Λ m w who)))) mi ml mr) := k_X8_mean G hr hd hW (hs.2.2.2 w hw).1 (hmw.2.2 w hw).1.1 (by have := hW.1.2.1; omega) hwho
theorem zMn_le {Λ : zLd} {m : zMo} {w who : Nat} (hmw : zMoW Λ m) (hw : w < Λ 0 1) : zMn Λ m w who ≤ 1000 := zMeanW_le (hmw.2.2 w hw).1
def zFl1 (b : Bool) : Int32 := if b = true then nI 1 else nI 0
theorem zFl_0 (b : Bool) : zFl1 b ||| nI 0 = zFl1 b := by cases b <;> decide
theorem zFl_1 (b : Bool) : zFl1 b ||| nI 1 = zFl1 true := by cases b <;> decide
theorem zFl_z {b : Bool} (h : zFl1 b = 0) : ¬ b = true := by cases b <;> first | decide | exact absurd h (by decide)
theorem zFl_n {b : Bool} (h : ¬ zFl1 b = 0) : b = true := by cases b <;> first | rfl | exact absurd rfl h
set_option maxHeartbeats 4000000 in
set_option maxRecDepth 100000 in
theorem l_X8_wants (G : zG) (d : Nat) (Q : zQ) {D E : Nat} {Λ : zLd} {m : zMo} {mi : zFi} {ml : zFl} {mr : zFr} (hr : zRf mr D E) (hd : zYd mi Λ) (hW : zLandW Λ) (hs : zYs (mi 225) Λ m) (hmw : zMoW Λ m) {x : Nat} (hx3 : x ≤ 3) : ∀ (k w : Nat) (b : Bool), w + k = Λ 0 1 → Q (some (.int (if (b || zAny (zWant Λ m x) k w) = true then nI 0 else nI 1))) mi ml mr → zE G (zRm (d + 3) 238 238) (zQm G 238 238 Q) yX8_wants.cls yX8_wants.name cX8_wants 4 (some .int) 238 20 [.ref 224, .int (nI x), .int (zFl1 b), .int (nI w)] [] 238 mi ml mr := by
  intro k
  induction k with
  | zero =>
    intro w b h hQ
    have hP3 := hW.1.1
    have hW5 := hW.1.2.1
    rw [show zAny (zWant Λ m x) 0 w = false from rfl, Bool.or_false] at hQ
    refine e_iload_n 21 dX8_wants_20 rfl rfl ?_
    refine e_aload_n 22 dX8_wants_21 rfl rfl ?_
    refine e_geti 25 dX8_wants_22 lf_X8_141 rfl rfl rfl (by decide) hd.1.2 ?_
    refine e_icmp_geN 66 28 dX8_wants_25 (by decide) rfl (by omega) (by omega) (fun h25 => ?_) (fun h25 => ?_)
    · refine e_iload_n 67 dX8_wants_66 rfl rfl ?_
      refine e_if_eq 74 70 dX8_wants_67 (by decide) rfl (fun h67 => ?_) (fun h67 => ?_)
      · refine e_iconst 75 hic_1 dX8_wants_74 rfl ?_
        refine e_ireturn .int dX8_wants_75 rfl rfl ?_
        first | (rw [if_neg (zFl_z h67)] at hQ; exact hQ) | (rw [if_pos (zFl_n h67)] at hQ; exact hQ)
      · refine e_iconst 71 hic_0 dX8_wants_70 rfl ?_
        refine e_goto 75 dX8_wants_71 (by decide) ?_
        refine e_ireturn .int dX8_wants_75 rfl rfl ?_
        first | (rw [if_neg (zFl_z h67)] at hQ; exact hQ) | (rw [if_pos (zFl_n h67)] at hQ; exact hQ)
    · exact absurd h25 (by omega)
  | succ k ih =>
    intro w b h hQ
    have hP3 := hW.1.1
    have hW5 := hW.1.2.1
    have e0 : zAny (zWant Λ m x) (k + 1) w = (zWant Λ m x w || zAny (zWant Λ m x) k (w + 1)) := rfl
    refine e_iload_n 21 dX8_wants_20 rfl rfl ?_
    refine e_aload_n 22 dX8_wants_21 rfl rfl ?_
    refine e_geti 25 dX8_wants_22 lf_X8_141 rfl rfl rfl (by decide) hd.1.2 ?_
    refine e_icmp_geN 66 28 dX8_wants_25 (by decide) rfl (by omega) (by omega) (fun h25 => ?_) (fun h25 => ?_)
    · exact absurd h25 (by omega)
    · refine e_iload_n 29 dX8_wants_28 rfl rfl ?_
      refine e_aload_n 30 dX8_wants_29 rfl rfl ?_
      refine e_getr 33 dX8_wants_30 lf_X8_32 rfl rfl rfl (by decide) hr.yw ?_
      refine e_iconst 34 hic_4 dX8_wants_33 rfl ?_
      refine e_iload_n 35 dX8_wants_34 rfl rfl ?_
      first | refine e_imulN 36 dX8_wants_35 rfl ?_ | refine e_imul 36 dX8_wants_35 rfl ?_
      refine e_iald (v := nI (Λ 2 w)) 37 dX8_wants_36 rfl rfl (by decide) rfl (by show _ < 40; omega) (hd.2.2.2 w h25 0 (by decide)) ?_
      refine e_iload_n 38 dX8_wants_37 rfl rfl ?_
      refine e_icmp_neN 57 41 dX8_wants_38 (by decide) rfl (by have := hW.2.2 w h25; omega) (by omega) (fun h38 => ?_) (fun h38 => ?_)
      · refine e_iconst 58 hic_0 dX8_wants_57 rfl ?_
        refine e_ior 59 dX8_wants_58 rfl ?_
        refine e_istore_n 60 dX8_wants_59 rfl (by decide) (zst1_2 rfl) ?_
        refine e_iinc 63 dX8_wants_60 rfl (by decide) rfl (z_inc hii_1) (zst1_3 rfl) ?_
        refine e_goto 20 dX8_wants_63 (by decide) ?_
        first
          | (have e1 : zWant Λ m x w = false := by unfold zWant; rw [decide_eq_false h38]; rfl
             rw [e0, e1, Bool.false_or] at hQ
             rw [zFl_0]
             exact ih (w + 1) b (by omega) hQ)
          | (have e1 : zWant Λ m x w = false := by unfold zWant; rw [decide_eq_false (p := 200 ≤ zMn Λ m w 0) (by omega), Bool.and_false]
             rw [e0, e1, Bool.false_or] at hQ
             rw [zFl_0]
             exact ih (w + 1) b (by omega) hQ)
          | (have e1 : zWant Λ m x w = true := by unfold zWant; rw [decide_eq_true h38, decide_eq_true (p := 200 ≤ zMn Λ m w 0) (by omega)]; rfl
             rw [e0, e1, Bool.true_or, Bool.or_true] at hQ
             rw [zFl_1]
             exact ih (w + 1) true (by omega) (by rw [Bool.true_or]; exact hQ))
      · refine e_aload_n 42 dX8_wants_41 rfl rfl ?_
        refine e_iload_n 43 dX8_wants_42 rfl rfl ?_
        refine e_iconst 44 hic_0 dX8_wants_43 rfl ?_
        refine c_Vqi 47 (ci := 8) dX8_wants_44 (k_X8_mn G hr hd hW hs hmw h25 (by decide)) lm_X8_169 zi_yX8_mean zs_yX8_mean rfl rfl (by decide) rfl rfl rfl (Nat.le_of_ble_eq_true rfl) (Nat.le_of_ble_eq_true rfl) (Nat.le_of_ble_eq_true rfl) (by exact Nat.le_refl _) (by exact Nat.le_refl _) ?_
        have hmn := zMn_le (who := 0) hmw h25
        refine e_sipush 50 hsi_200 dX8_wants_47 rfl ?_
        refine e_icmp_ltN 57 53 dX8_wants_50 (by decide) rfl (by omega) (by omega) (fun h50 => ?_) (fun h50 => ?_)
        · refine e_iconst 58 hic_0 dX8_wants_57 rfl ?_
          refine e_ior 59 dX8_wants_58 rfl ?_
          refine e_istore_n 60 dX8_wants_59 rfl (by decide) (zst1_2 rfl) ?_
          refine e_iinc 63 dX8_wants_60 rfl (by decide) rfl (z_inc hii_1) (zst1_3 rfl) ?_
          refine e_goto 20 dX8_wants_63 (by decide) ?_
          first
            | (have e1 : zWant Λ m x w = false := by unfold zWant; rw [decide_eq_false h38]; rfl
               rw [e0, e1, Bool.false_or] at hQ
               rw [zFl_0]
               exact ih (w + 1) b (by omega) hQ)
            | (have e1 : zWant Λ m x w = false := by unfold zWant; rw [decide_eq_false (p := 200 ≤ zMn Λ m w 0) (by omega), Bool.and_false]
               rw [e0, e1, Bool.false_or] at hQ
               rw [zFl_0]
               exact ih (w + 1) b (by omega) hQ)
            | (have e1 : zWant Λ m x w = true := by unfold zWant; rw [decide_eq_true h38, decide_eq_true (p := 200 ≤ zMn Λ m w 0) (by omega)]; rfl
               rw [e0, e1, Bool.true_or, Bool.or_true] at hQ
               rw [zFl_1]
               exact ih (w + 1) true (by omega) (by rw [Bool.true_or]; exact hQ))
        · refine e_iconst 54 hic_1 dX8_wants_53 rfl ?_
          refine e_goto 58 dX8_wants_54 (by decide) ?_
          refine e_ior 59 dX8_wants_58 rfl ?_
          refine e_istore_n 60 dX8_wants_59 rfl (by decide) (zst1_2 rfl) ?_
          refine e_iinc 63 dX8_wants_60 rfl (by decide) rfl (z_inc hii_1) (zst1_3 rfl) ?_
          refine e_goto 20 dX8_wants_63 (by decide) ?_
          first
            | (have e1 : zWant Λ m x w = false := by unfold zWant; rw [decide_eq_false h38]; rfl
               rw [e0, e1, Bool.false_or] at hQ
               rw [zFl_0]
               exact ih (w + 1) b (by omega) hQ)
            | (have e1 : zWant Λ m x w = false := by unfold zWant; rw [decide_eq_false (p := 200 ≤ zMn Λ m w 0) (by omega), Bool.and_false]
               rw [e0, e1, Bool.false_or] at hQ
               rw [zFl_0]
               exact ih (w + 1) b (by omega) hQ)
            | (have e1 : zWant Λ m x w = true := by unfold zWant; rw [decide_eq_true h38, decide_eq_true (p := 200 ≤ zMn Λ m w 0) (by omega)]; rfl
               rw [e0, e1, Bool.true_or, Bool.or_true] at hQ
               rw [zFl_1]
               exact ih (w + 1) true (by omega) (by rw [Bool.true_or]; exact hQ))
set_option maxHeartbeats 4000000 in
set_option maxRecDepth 100000 in
theorem k_X8_wants (G : zG) {D E : Nat} {Λ : zLd} {late : Nat} {tr : Int64} {t : zTx} {m : zMo} {im : Nat → Nat × zMo} {l : zLt} {r : zWr} {mi : zFi} {ml : zFl} {mr : zFr} (hr : zRf mr D E) (hY : zY mi ml Λ late tr t m im l r) (hF : zWf Λ late t m im l r) {wh : Int32} : zMet G 3 yX8_wants cX8_wants 4 (some .int) [.ref 224, .int wh] 238 mi ml mr 238 (zPi fun x u b c => x = sWants Λ m wh ∧ zY u b Λ late tr t m im l r ∧ (∀ q, q < 224 → u q = mi q) ∧ b = ml ∧ c = mr) := by
  obtain ⟨hW, hla30, htw, hmw, himw, hlw, hrw⟩ := id hF
  have hP3 := hW.1.1
  have hW5 := hW.1.2.1
  have hy99 := hmw.1
  refine z_intro ([.ref 224, .int wh, zx, zx]) (by decide) rfl (Nat.le_of_ble_eq_true rfl) ?_
  refine e_aload_n 1 dX8_wants_0 rfl rfl ?_
  refine e_iconst 2 hic_0 dX8_wants_1 rfl ?_
  refine e_puti 5 dX8_wants_2 lf_X8_56 rfl rfl rfl rfl rfl (by decide) ?_
  obtain ⟨m1, em, hfr⟩ : ∃ m1, m1 = zp mi 224 0 (nI 0) ∧ ∀ q, q ≠ 224 → m1 q = mi q := ⟨_, rfl, fun q hq => zp_r _ _ _ hq⟩
  have hY := hY.th (k := 0) (v := nI 0) (Or.inl rfl)
  rw [← em] at hY ⊢
  obtain ⟨hd, hlate, htr, ht, hs, him, hl, hw⟩ := id hY
  refine e_iload_n 6 dX8_wants_5 rfl rfl ?_
  refine e_iconst 7 hic_0 dX8_wants_6 rfl ?_
  refine e_iconst 8 hic_3 dX8_wants_7 rfl ?_
  refine c_Sqi 11 dX8_wants_8 (k_X8_inN G (by decide) (by decide)) lm_X8_60 zt_yX8_in rfl rfl rfl (Nat.le_of_ble_eq_true rfl) (Nat.le_of_ble_eq_true rfl) (Nat.le_of_ble_eq_true rfl) (by exact Nat.le_refl _) (by exact Nat.le_refl _) ?_
  refine e_if_ne 16 14 dX8_wants_11 (by decide) rfl (fun h11 => ?_) (fun h11 => ?_)
  · have h11 := zB_1 h11
    obtain ⟨ewh, hx9⟩ := h11.nat
    refine e_iconst 17 hic_0 dX8_wants_16 rfl ?_
    refine e_istore_n 18 dX8_wants_17 rfl (by decide) (zst1_2 rfl) ?_
    refine e_iconst 19 hic_0 dX8_wants_18 rfl ?_
    refine e_istore_n 20 dX8_wants_19 rfl (by decide) (zst1_3 rfl) ?_
    have eA : sWants Λ m wh = (if zAny (zWant Λ m (zK wh)) (Λ 0 1) 0 = true then nI 0 else nI 1) := iteP h11
    rw [eA]
    clear eA h11
    generalize zK wh = x9 at ewh hx9 ⊢
    subst ewh
    exact l_X8_wants G 0 _ hr hd hW hs hmw (by omega) (Λ 0 1) 0 false (by omega) ⟨_, rfl, by rw [Bool.false_or], hY, fun q hq => hfr q (by omega), rfl, rfl⟩
  · have h11 := zB_0 h11
    refine e_iconst 15 hic_m1 dX8_wants_14 rfl ?_
    refine e_ireturn .int dX8_wants_15 rfl rfl ?_
    exact ⟨_, rfl, (iteN h11).symm, hY, fun q hq => hfr q (by omega), rfl, rfl⟩

set_option maxHeartbeats 4000000 in
set_option maxRecDepth 100000 in
theorem l_X8_drawn (G : zG) (d : Nat) (Q : zQ) {D E : Nat} {Λ : zLd} {m : zMo} {mi : zFi} {ml : zFl} {mr : zFr} (hr : zRf mr D E) (hd0 : zYd mi Λ) (hW : zLandW Λ) (hmw : zMoW Λ m) {a p : Nat} (ha1 : 10 ≤ a) (ha2 : a ≤ 69) (hp : p < Λ 0 0) : ∀ (k w : Nat) (s : Int32 × Int32) (u : zFi), w + k = Λ 0 1 → zFs9 u mi → zYs (u 225) Λ (m.1, s.1, m.2.2) → (∀ (b : zFi) (s2 : Int32 × Int32), s2 = zDrF (fun w => (m.2.2.2 w).1 p a) k w s → zFs9 b mi → zYs (b 225) Λ (m.1, s2.1, m.2.2) → Q (some (.int s2.2)) b ml mr) → zE G (zRm (d + 2) 238 238) (zQm G 238 238 Q) yX8_drawn.cls yX8_drawn.name cX8_drawn 5 (some .int) 238 27 [.ref 224, .int (nI a), .int (nI p), .int s.2, .int (nI w)] [] 238 u ml mr := by
  intro k
  induction k with
  | zero =>
    intro w s u h hf hs hQ
    have hd := hd0.s hf
    have hP3 := hW.1.1
    have hW5 := hW.1.2.1
    refine e_iload 29 dX8_drawn_27 rfl rfl ?_
    refine e_aload_n 30 dX8_drawn_29 rfl rfl ?_
    refine e_geti 33 dX8_drawn_30 lf_X8_141 rfl rfl rfl (by decide) hd.1.2 ?_
    refine e_icmp_geN 103 36 dX8_drawn_33 (by decide) rfl (by omega) (by omega) (fun h33 => ?_) (fun h33 => ?_)
    · refine e_iload_n 104 dX8_drawn_103 rfl rfl ?_
      refine e_ireturn .int dX8_drawn_104 rfl rfl ?_
      exact hQ u s rfl hf hs
    · exact absurd h33 (by omega)
  | succ k ih =>
    intro w s u h hf hs hQ
    have hd := hd0.s hf
    have hP3 := hW.1.1
    have hW5 := hW.1.2.1
    have e0 : zDrF (fun w => (m.2.2.2 w).1 p a) (k + 1) w s = zDrF (fun w => (m.2.2.2 w).1 p a) k (w + 1) (zLot s.1, if zDrw (zLot s.1) < nI ((m.2.2.2 w).1 p a) then s.2 ||| (nI 1 <<< (nI w &&& 31)) else s.2) := zFo_s (zDrSt (fun w => (m.2.2.2 w).1 p a)) k w s
    rw [e0] at hQ
    refine e_iload 29 dX8_drawn_27 rfl rfl ?_
    refine e_aload_n 30 dX8_drawn_29 rfl rfl ?_
    refine e_geti 33 dX8_drawn_30 lf_X8_141 rfl rfl rfl (by decide) hd.1.2 ?_
    refine e_icmp_geN 103 36 dX8_drawn_33 (by decide) rfl (by omega) (by omega) (fun h33 => ?_) (fun h33 => ?_)
    · exact absurd h33 (by omega)
    · refine e_aload_n 37 dX8_drawn_36 rfl rfl ?_
      refine e_getr 40 dX8_drawn_37 lf_X8_7 rfl rfl rfl (by decide) hr.ys ?_
      refine e_iconst 41 hic_1 dX8_drawn_40 rfl ?_
      refine e_aload_n 42 dX8_drawn_41 rfl rfl ?_
      refine e_getr 45 dX8_drawn_42 lf_X8_7 rfl rfl rfl (by decide) hr.ys ?_
      refine e_iconst 46 hic_1 dX8_drawn_45 rfl ?_
      refine e_iald (v := s.1) 47 dX8_drawn_46 rfl rfl (by decide) rfl (by show 1 < 2950; decide) hs.2.1 ?_
      refine e_ldc 49 lc_X8_241 dX8_drawn_47 rfl ?_
      refine e_imul 50 dX8_drawn_49 rfl ?_
      refine e_sipush 53 hsi_12345 dX8_drawn_50 rfl ?_
      refine e_iadd 54 dX8_drawn_53 rfl ?_
      rw [show s.1 * nI 1103515245 + nI 12345 = zLot s.1 from rfl]
      generalize zLot s.1 = s1 at hQ ⊢
      refine e_iast 55 dX8_drawn_54 rfl rfl (by decide) rfl (by show 1 < 2950; decide) ?_
      refine e_iload_n 56 dX8_drawn_55 rfl rfl ?_
      refine e_aload_n 57 dX8_drawn_56 rfl rfl ?_
      refine e_getr 60 dX8_drawn_57 lf_X8_7 rfl rfl rfl (by decide) hr.ys ?_
      refine e_iconst 61 hic_1 dX8_drawn_60 rfl ?_
      refine e_iald 62 dX8_drawn_61 rfl rfl (by decide) rfl (by show 1 < 2950; decide) (zp_s _ _ _ _) ?_
      refine e_bipush 64 hbi_16 dX8_drawn_62 rfl ?_
      refine e_ishr 65 dX8_drawn_64 rfl ?_
      refine e_ldc 67 lc_X8_242 dX8_drawn_65 rfl ?_
      refine e_iand 68 dX8_drawn_67 rfl ?_
      refine e_sipush 71 hsi_1000 dX8_drawn_68 rfl ?_
      refine e_irem 72 dX8_drawn_71 rfl (by decide) ?_
      rw [zDrE_r, show zDrE s1 - zDrE s1 / nI 1000 * nI 1000 = zDrw s1 from rfl]
      generalize zDrw s1 = dr at hQ ⊢
      refine e_aload_n 73 dX8_drawn_72 rfl rfl ?_
      refine e_getr 76 dX8_drawn_73 lf_X8_7 rfl rfl rfl (by decide) hr.ys ?_
      refine e_iload 78 dX8_drawn_76 rfl rfl ?_
      refine e_iload_n 79 dX8_drawn_78 rfl rfl ?_
      refine e_iload_n 80 dX8_drawn_79 rfl rfl ?_
      refine c_Sqi 83 dX8_drawn_80 (k_X8_at G) lm_X8_162 zt_yX8_at rfl rfl rfl (Nat.le_of_ble_eq_true rfl) (Nat.le_of_ble_eq_true rfl) (Nat.le_of_ble_eq_true rfl) (by exact Nat.le_refl _) (by exact Nat.le_refl _) ?_
      refine e_iald (v := nI ((m.2.2.2 w).1 p a)) 84 dX8_drawn_83 rfl rfl (by decide) rfl (by show zAt w p a < 2950; unfold zAt; omega) ((zp_k _ _ (by unfold zAt; omega)).trans ((hs.2.2.2 w h33).1 p hp a ha1 ha2)) ?_
      refine e_icmp_ge 94 87 dX8_drawn_84 (by decide) rfl (fun h84 => ?_) (fun h84 => ?_)
      · refine e_iconst 95 hic_0 dX8_drawn_94 rfl ?_
        refine e_ior 96 dX8_drawn_95 rfl ?_
        refine e_istore_n 97 dX8_drawn_96 rfl (by decide) (zst1_3 rfl) ?_
        refine e_iinc 100 dX8_drawn_97 rfl (by decide) rfl (z_inc hii_1) (zst1_4 rfl) ?_
        refine e_goto 27 dX8_drawn_100 (by decide) ?_
        have hs2 : zYs (zp u 225 1 s1 225) Λ (m.1, s1, m.2.2) := hs.lot hmw.2.1.1 (zp_s _ _ _ _) (fun k hk => zp_k _ _ hk)
        first
          | (rw [zIor_0]; rw [if_neg (show ¬ dr < nI ((m.2.2.2 w).1 p a) from fun z => absurd h84 (Int32.not_le.mpr z))] at hQ; exact ih (w + 1) (s1, _) _ (by omega) (zFs9.p.t hf) hs2 (fun b s2 e h1 h2 => hQ b s2 e h1 h2))
          | (rw [if_pos (show dr < nI ((m.2.2.2 w).1 p a) from Int32.not_le.mp h84)] at hQ; exact ih (w + 1) (s1, _) _ (by omega) (zFs9.p.t hf) hs2 (fun b s2 e h1 h2 => hQ b s2 e h1 h2))
      · refine e_iconst 88 hic_1 dX8_drawn_87 rfl ?_
        refine e_iload 90 dX8_drawn_88 rfl rfl ?_
        refine e_ishl 91 dX8_drawn_90 rfl ?_
        refine e_goto 95 dX8_drawn_91 (by decide) ?_
        refine e_ior 96 dX8_drawn_95 rfl ?_
        refine e_istore_n 97 dX8_drawn_96 rfl (by decide) (zst1_3 rfl) ?_
        refine e_iinc 100 dX8_drawn_97 rfl (by decide) rfl (z_inc hii_1) (zst1_4 rfl) ?_
        refine e_goto 27 dX8_drawn_100 (by decide) ?_
        have hs2 : zYs (zp u 225 1 s1 225) Λ (m.1, s1, m.2.2) := hs.lot hmw.2.1.1 (zp_s _ _ _ _) (fun k hk => zp_k _ _ hk)
        first
          | (rw [zIor_0]; rw [if_neg (show ¬ dr < nI ((m.2.2.2 w).1 p a) from fun z => absurd h84 (Int32.not_le.mpr z))] at hQ; exact ih (w + 1) (s1, _) _ (by omega) (zFs9.p.t hf) hs2 (fun b s2 e h1 h2 => hQ b s2 e h1 h2))
          | (rw [if_pos (show dr < nI ((m.2.2.2 w).1 p a) from Int32.not_le.mp h84)] at hQ; exact ih (w + 1) (s1, _) _ (by omega) (zFs9.p.t hf) hs2 (fun b s2 e h1 h2 => hQ b s2 e h1 h2))
set_option maxHeartbeats 4000000 in
set_option maxRecDepth 100000 in
theorem k_X8_drawn (G : zG) {D E : Nat} {Λ : zLd} {late : Nat} {tr : Int64} {t : zTx} {m : zMo} {im : Nat → Nat × zMo} {l : zLt} {r : zWr} {mi : zFi} {ml : zFl} {mr : zFr} (hr : zRf mr D E) (hY : zY mi ml Λ late tr t m im l r) (hF : zWf Λ late t m im l r) {a p : Int32} : zMet G 2 yX8_drawn cX8_drawn 5 (some .int) [.ref 224, .int a, .int p] 238 mi ml mr 238 (zPi fun x u b c => x = sDrawn Λ m a p ∧ zY u b Λ late tr t (sDrawnM Λ m a p) im l r ∧ (∀ q, q < 224 → u q = mi q) ∧ b = ml ∧ c = mr) := by
  obtain ⟨hW, hla30, htw, hmw, himw, hlw, hrw⟩ := id hF
  have hP3 := hW.1.1
  have hW5 := hW.1.2.1
  have hy99 := hmw.1
  refine z_intro ([.ref 224, .int a, .int p, zx, zx]) (by decide) rfl (Nat.le_of_ble_eq_true rfl) ?_
  refine e_aload_n 1 dX8_drawn_0 rfl rfl ?_
  refine e_iconst 2 hic_0 dX8_drawn_1 rfl ?_
  refine e_puti 5 dX8_drawn_2 lf_X8_56 rfl rfl rfl rfl rfl (by decide) ?_
  obtain ⟨m1, em, hfr⟩ : ∃ m1, m1 = zp mi 224 0 (nI 0) ∧ ∀ q, q ≠ 224 → m1 q = mi q := ⟨_, rfl, fun q hq => zp_r _ _ _ hq⟩
  have hY := hY.th (k := 0) (v := nI 0) (Or.inl rfl)
  rw [← em] at hY ⊢
  obtain ⟨hd, hlate, htr, ht, hs, him, hl, hw⟩ := id hY
  refine e_iload_n 6 dX8_drawn_5 rfl rfl ?_
  refine c_Sqi 9 dX8_drawn_6 (k_X8_isAge G) lm_X8_190 zt_yX8_isAge rfl rfl rfl (Nat.le_of_ble_eq_true rfl) (Nat.le_of_ble_eq_true rfl) (Nat.le_of_ble_eq_true rfl) (by exact Nat.le_refl _) (by exact Nat.le_refl _) ?_
  refine e_if_eq 20 12 dX8_drawn_9 (by decide) rfl (fun h9 => ?_) (fun h9 => ?_)
  · have h9 := zB_0 h9
    refine e_iconst 21 hic_m1 dX8_drawn_20 rfl ?_
    refine e_ireturn .int dX8_drawn_21 rfl rfl ?_
    have hno : ¬ sDrawOk Λ a p := fun q => by first | exact h9 q.1 | exact h17 q.2
    have e1 : sDrawn Λ m a p = -1 := iteN hno
    have e2 : sDrawnM Λ m a p = m := iteN hno
    rw [e1, e2]
    exact ⟨_, rfl, rfl, hY, fun q hq => hfr q (by omega), rfl, rfl⟩
  · have h9 := zB_1 h9
    obtain ⟨ea, ha9⟩ := h9.nat
    refine e_aload_n 13 dX8_drawn_12 rfl rfl ?_
    refine e_iload_n 14 dX8_drawn_13 rfl rfl ?_
    refine c_Vqi 17 (ci := 8) dX8_drawn_14 (k_X8_isPlace G hr hd hW) lm_X8_153 zi_yX8_isPlace zs_yX8_isPlace rfl rfl (by decide) rfl rfl rfl (Nat.le_of_ble_eq_true rfl) (Nat.le_of_ble_eq_true rfl) (Nat.le_of_ble_eq_true rfl) (by exact Nat.le_refl _) (by exact Nat.le_refl _) ?_
    refine e_if_ne 22 20 dX8_drawn_17 (by decide) rfl (fun h17 => ?_) (fun h17 => ?_)
    · have h17 := zB_1 h17
      obtain ⟨ep, hp9⟩ := h17.nat
      refine e_iconst 23 hic_0 dX8_drawn_22 rfl ?_
      refine e_istore_n 24 dX8_drawn_23 rfl (by decide) (zst1_3 rfl) ?_
      refine e_iconst 25 hic_0 dX8_drawn_24 rfl ?_
      refine e_istore 27 dX8_drawn_25 rfl (by decide) (zst1_4 rfl) ?_
      have e1 : sDrawn Λ m a p = (zDraw Λ m (zK a) (zK p)).2 := iteP ⟨h9, h17⟩
      have e2 : sDrawnM Λ m a p = (m.1, (zDraw Λ m (zK a) (zK p)).1, m.2.2) := iteP ⟨h9, h17⟩
      rw [e1, e2]
      clear e1 e2 h9 h17
      generalize zK a = a9 at ea ha9 ⊢
      generalize zK p = p9 at ep hp9 ⊢
      subst ea ep
      exact l_X8_drawn G 0 _ hr hd hW hmw ha9.1 ha9.2 hp9 (Λ 0 1) 0 (m.2.1, nI 0) m1 (by omega) (zFs9.r m1) hs (fun b s2 e g1 g2 => ⟨_, rfl, by rw [e]; rfl, hY.mom g1.v (by rw [e] at g2; exact g2), fun q hq => (g1 q (by omega)).trans (hfr q (by omega)), rfl, rfl⟩)
    · have h17 := zB_0 h17
      refine e_iconst 21 hic_m1 dX8_drawn_20 rfl ?_
      refine e_ireturn .int dX8_drawn_21 rfl rfl ?_
      have hno : ¬ sDrawOk Λ a p := fun q => by first | exact h9 q.1 | exact h17 q.2
      have e1 : sDrawn Λ m a p = -1 := iteN hno
      have e2 : sDrawnM Λ m a p = m := iteN hno
      rw [e1, e2]
      exact ⟨_, rfl, rfl, hY, fun q hq => hfr q (by omega), rfl, rfl⟩

