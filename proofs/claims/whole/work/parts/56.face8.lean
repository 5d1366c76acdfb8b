theorem zsum_a2 (f g : Nat → Nat) : ∀ (k a : Nat), zsum (fun x => f x + g x) a k = zsum f a k + zsum g a k
  | 0, _ => rfl
  | k + 1, a => by
    show f a + g a + zsum (fun x => f x + g x) (a + 1) k = f a + zsum f (a + 1) k + (g a + zsum g (a + 1) k)
    rw [zsum_a2 f g k (a + 1)]
    omega
theorem zsum_0 : ∀ (k a : Nat), zsum (fun _ => 0) a k = 0
  | 0, _ => rfl
  | k + 1, a => by
    show 0 + zsum (fun _ => 0) (a + 1) k = 0
    rw [zsum_0 k (a + 1)]
theorem zsum_swap (g : Nat → Nat → Nat) (a k : Nat) : ∀ (n p : Nat), zsum (fun p => zsum (fun x => g x p) a k) p n = zsum (fun x => zsum (fun p => g x p) p n) a k
  | 0, p => (zsum_0 k a).symm
  | n + 1, p => by
    show zsum (fun x => g x p) a k + zsum (fun p => zsum (fun x => g x p) a k) (p + 1) n = zsum (fun x => g x p + zsum (fun p => g x p) (p + 1) n) a k
    rw [zsum_swap g a k n (p + 1), zsum_a2]
set_option maxHeartbeats 4000000 in
set_option maxRecDepth 100000 in
theorem m_X8_weights (G : zG) (d : Nat) (Q : zQ) {D E : Nat} {Λ : zLd} {m : zMo} {mi : zFi} {ml : zFl} {mr : zFr} (hr : zRf mr D E) (hd : zYd mi Λ) (hW : zLandW Λ) (hs : zYs (mi 225) Λ m) (hmw : zMoW Λ m) {on nt : Int32} {a b : Nat} (ha : 10 ≤ a) (hb : b ≤ 69) {p : Nat} (hp : p < Λ 0 0) : ∀ (k x s : Nat), a ≤ x → x + k = b + 1 → zE G (zRm (d + 2) 238 238) (zQm G 238 238 Q) yX8_weights.cls yX8_weights.name cX8_weights 9 (some .long) 238 46 [.ref 224, .int on, .int nt, .int (nI a), .int (nI b), .long (lN (s + zsum (fun x => zWa Λ m on nt x p) x k)), zx, .int (nI p), .int (nI (b + 1))] [] 238 mi ml mr → zE G (zRm (d + 2) 238 238) (zQm G 238 238 Q) yX8_weights.cls yX8_weights.name cX8_weights 9 (some .long) 238 18 [.ref 224, .int on, .int nt, .int (nI a), .int (nI b), .long (lN s), zx, .int (nI p), .int (nI x)] [] 238 mi ml mr := by
  intro k
  induction k with
  | zero =>
    intro x s hx h hQ
    have hP3 := hW.1.1
    refine e_iload 20 dX8_weights_18 rfl rfl ?_
    refine e_iload 22 dX8_weights_20 rfl rfl ?_
    refine e_icmp_gtN 46 25 dX8_weights_22 (by decide) rfl (by omega) (by omega) (fun h22 => ?_) (fun h22 => ?_)
    · have e : x = b + 1 := by omega
      subst e
      exact hQ
    · exact absurd h22 (by omega)
  | succ k ih =>
    intro x s hx h hQ
    have hP3 := hW.1.1
    rw [show s + zsum (fun x => zWa Λ m on nt x p) x (k + 1) = s + zWa Λ m on nt x p + zsum (fun x => zWa Λ m on nt x p) (x + 1) k from by show s + (zWa Λ m on nt x p + _) = _; rw [Nat.add_assoc]] at hQ
    refine e_iload 20 dX8_weights_18 rfl rfl ?_
    refine e_iload 22 dX8_weights_20 rfl rfl ?_
    refine e_icmp_gtN 46 25 dX8_weights_22 (by decide) rfl (by omega) (by omega) (fun h22 => ?_) (fun h22 => ?_)
    · exact absurd h22 (by omega)
    · refine e_lload 27 dX8_weights_25 rfl rfl ?_
      refine e_aload_n 28 dX8_weights_27 rfl rfl ?_
      refine e_iload_n 29 dX8_weights_28 rfl rfl ?_
      refine e_iload_n 30 dX8_weights_29 rfl rfl ?_
      refine e_iload 32 dX8_weights_30 rfl rfl ?_
      refine e_iload 34 dX8_weights_32 rfl rfl ?_
      refine c_Vql 37 (ci := 8) dX8_weights_34 (k_X8_weight G hr hd hW (by omega) (by omega) hp (fun w hw => (hs.2.2.2 w hw).1 p hp x (by omega) (by omega)) (fun w hw => (hmw.2.2 w hw).1.1 p hp x (by omega) (by omega))) lm_X8_212 zi_yX8_weight zs_yX8_weight rfl rfl (by decide) rfl rfl rfl (Nat.le_of_ble_eq_true rfl) (Nat.le_of_ble_eq_true rfl) (Nat.le_of_ble_eq_true rfl) (by exact Nat.le_refl _) (by exact Nat.le_refl _) ?_
      refine e_ladd 38 dX8_weights_37 rfl ?_
      rw [lN_add]
      refine e_lstore 40 dX8_weights_38 rfl (by decide) (zst2_5 rfl) ?_
      refine e_iinc 43 dX8_weights_40 rfl (by decide) rfl (z_inc hii_1) (zst1_8 rfl) ?_
      refine e_goto 18 dX8_weights_43 (by decide) ?_
      exact ih (x + 1) _ (by omega) (by omega) hQ
set_option maxHeartbeats 4000000 in
set_option maxRecDepth 100000 in
theorem l_X8_weights (G : zG) (d : Nat) (Q : zQ) {D E : Nat} {Λ : zLd} {m : zMo} {mi : zFi} {ml : zFl} {mr : zFr} (hr : zRf mr D E) (hd : zYd mi Λ) (hW : zLandW Λ) (hs : zYs (mi 225) Λ m) (hmw : zMoW Λ m) {on nt : Int32} {a b : Nat} (ha : 10 ≤ a) (hb : b ≤ 69) (hab : a ≤ b + 1) : ∀ (k p s : Nat) (v8 : Value), p + k = Λ 0 0 → Q (some (.long (lN (s + zsum (fun p => zsum (fun x => zWa Λ m on nt x p) a (b + 1 - a)) p k)))) mi ml mr → zE G (zRm (d + 2) 238 238) (zQm G 238 238 Q) yX8_weights.cls yX8_weights.name cX8_weights 9 (some .long) 238 6 [.ref 224, .int on, .int nt, .int (nI a), .int (nI b), .long (lN s), zx, .int (nI p), v8] [] 238 mi ml mr := by
  intro k
  induction k with
  | zero =>
    intro p s v8 h hQ
    have hP3 := hW.1.1
    refine e_iload 8 dX8_weights_6 rfl rfl ?_
    refine e_aload_n 9 dX8_weights_8 rfl rfl ?_
    refine e_geti 12 dX8_weights_9 lf_X8_138 rfl rfl rfl (by decide) hd.1.1 ?_
    refine e_icmp_geN 52 15 dX8_weights_12 (by decide) rfl (by omega) (by omega) (fun h12 => ?_) (fun h12 => ?_)
    · refine e_lload 54 dX8_weights_52 rfl rfl ?_
      refine e_lreturn dX8_weights_54 rfl ?_
      exact hQ
    · exact absurd h12 (by omega)
  | succ k ih =>
    intro p s v8 h hQ
    have hP3 := hW.1.1
    rw [show s + zsum (fun p => zsum (fun x => zWa Λ m on nt x p) a (b + 1 - a)) p (k + 1) = s + zsum (fun x => zWa Λ m on nt x p) a (b + 1 - a) + zsum (fun p => zsum (fun x => zWa Λ m on nt x p) a (b + 1 - a)) (p + 1) k from by show s + (_ + _) = _; rw [Nat.add_assoc]] at hQ
    refine e_iload 8 dX8_weights_6 rfl rfl ?_
    refine e_aload_n 9 dX8_weights_8 rfl rfl ?_
    refine e_geti 12 dX8_weights_9 lf_X8_138 rfl rfl rfl (by decide) hd.1.1 ?_
    refine e_icmp_geN 52 15 dX8_weights_12 (by decide) rfl (by omega) (by omega) (fun h12 => ?_) (fun h12 => ?_)
    · exact absurd h12 (by omega)
    · refine e_iload_n 16 dX8_weights_15 rfl rfl ?_
      refine e_istore 18 dX8_weights_16 rfl (by decide) (zst1_8 rfl) ?_
      refine m_X8_weights G d Q hr hd hW hs hmw ha hb h12 (b + 1 - a) a s (Nat.le_refl _) (by omega) ?_
      refine e_iinc 49 dX8_weights_46 rfl (by decide) rfl (z_inc hii_1) (zst1_7 rfl) ?_
      refine e_goto 6 dX8_weights_49 (by decide) ?_
      exact ih (p + 1) _ _ (by omega) hQ
set_option maxHeartbeats 4000000 in
set_option maxRecDepth 100000 in
theorem k_X8_weights (G : zG) {D E : Nat} {Λ : zLd} {m : zMo} {mi : zFi} {ml : zFl} {mr : zFr} (hr : zRf mr D E) (hd : zYd mi Λ) (hW : zLandW Λ) (hs : zYs (mi 225) Λ m) (hmw : zMoW Λ m) {on nt : Int32} {a b : Nat} (ha : 10 ≤ a) (hb : b ≤ 69) (hab : a ≤ b + 1) : zMet G 2 yX8_weights cX8_weights 9 (some .long) [.ref 224, .int on, .int nt, .int (nI a), .int (nI b)] 238 mi ml mr 238 (zPq (some (.long (lN (zWs9 Λ m on nt a b)))) mi ml mr) := by
  refine z_intro ([.ref 224, .int on, .int nt, .int (nI a), .int (nI b), zx, zx, zx, zx]) (by decide) rfl (Nat.le_of_ble_eq_true rfl) ?_
  refine e_lconst 1 (v := lN 0) rfl dX8_weights_0 rfl ?_
  refine e_lstore 3 dX8_weights_1 rfl (by decide) (zst2_5 rfl) ?_
  refine e_iconst 4 hic_0 dX8_weights_3 rfl ?_
  refine e_istore 6 dX8_weights_4 rfl (by decide) (zst1_7 rfl) ?_
  exact l_X8_weights G 0 _ hr hd hW hs hmw ha hb hab (Λ 0 0) 0 0 _ (by omega) ⟨by rw [Nat.zero_add, zsum_swap (fun x p => zWa Λ m on nt x p)]; rfl, rfl, rfl, rfl⟩

theorem vR_ab {a b : Int32} (h : vR a 10 69) : vR b (zK a) 69 ↔ (vR b 10 69 ∧ zK a ≤ zK b) := by
  have h1 := h.nat.2
  constructor
  · intro q
    have q2 := q.nat.2
    refine ⟨⟨?_, q.2⟩, q2.1⟩
    have := q.1
    show ((10 : Nat) : Int) ≤ _
    omega
  · intro q
    have q2 := q.1.nat
    refine ⟨?_, q.1.2⟩
    have e : (zK b : Int) = b.toInt := by
      have := q.1.1
      unfold zK
      omega
    rw [← e]
    omega
set_option maxHeartbeats 4000000 in
set_option maxRecDepth 100000 in
theorem k_X8_old (G : zG) {D E : Nat} {Λ : zLd} {late : Nat} {tr : Int64} {t : zTx} {m : zMo} {im : Nat → Nat × zMo} {l : zLt} {r : zWr} {mi : zFi} {ml : zFl} {mr : zFr} (hr : zRf mr D E) (hY : zY mi ml Λ late tr t m im l r) (hF : zWf Λ late t m im l r) {on nt a b what : Int32} : zMet G 3 yX8_old cX8_old 8 (some .long) [.ref 224, .int on, .int nt, .int a, .int b, .int what] 238 mi ml mr 238 (zPl fun x u b' c => x = sOld Λ m on nt a b what ∧ zY u b' Λ late tr t m im l r ∧ (∀ q, q < 224 → u q = mi q) ∧ b' = ml ∧ c = mr) := by
  obtain ⟨hW, hla30, htw, hmw, himw, hlw, hrw⟩ := id hF
  have hP3 := hW.1.1
  have hW5 := hW.1.2.1
  have hy99 := hmw.1
  refine z_intro ([.ref 224, .int on, .int nt, .int a, .int b, .int what, zx, zx]) (by decide) rfl (Nat.le_of_ble_eq_true rfl) ?_
  refine e_aload_n 1 dX8_old_0 rfl rfl ?_
  refine e_iconst 2 hic_0 dX8_old_1 rfl ?_
  refine e_puti 5 dX8_old_2 lf_X8_56 rfl rfl rfl rfl rfl (by decide) ?_
  obtain ⟨m1, em, hfr⟩ : ∃ m1, m1 = zp mi 224 0 (nI 0) ∧ ∀ q, q ≠ 224 → m1 q = mi q := ⟨_, rfl, fun q hq => zp_r _ _ _ hq⟩
  have hY := hY.th (k := 0) (v := nI 0) (Or.inl rfl)
  rw [← em] at hY ⊢
  obtain ⟨hd, hlate, htr, ht, hs, him, hl, hw⟩ := id hY
  refine e_iload_n 6 dX8_old_5 rfl rfl ?_
  refine c_Sqi 9 dX8_old_6 (k_X8_isAge G) lm_X8_190 zt_yX8_isAge rfl rfl rfl (Nat.le_of_ble_eq_true rfl) (Nat.le_of_ble_eq_true rfl) (Nat.le_of_ble_eq_true rfl) (by exact Nat.le_refl _) (by exact Nat.le_refl _) ?_
  refine e_if_eq 33 12 dX8_old_9 (by decide) rfl (fun h9 => ?_) (fun h9 => ?_)
  · have h9 := zB_0 h9
    refine e_ldc2_w 36 lc_X8_216 dX8_old_33 rfl ?_
    refine e_lreturn dX8_old_36 rfl ?_
    exact ⟨_, rfl, (iteN (fun q => by first | exact h9 q.1 | exact h20 ⟨q.2.1, q.2.2.1⟩ | exact h30 q.2.2.2)).symm, hY, fun q hq => hfr q (by omega), rfl, rfl⟩
  · have h9 := zB_1 h9
    obtain ⟨ea, ha9⟩ := h9.nat
    refine e_iload 14 dX8_old_12 rfl rfl ?_
    refine e_iload_n 15 dX8_old_14 rfl rfl ?_
    refine e_bipush 17 hbi_69 dX8_old_15 rfl ?_
    rw [show (Value.int a) = Value.int (nI (zK a)) from congrArg Value.int ea]
    refine c_Sqi 20 dX8_old_17 (k_X8_inN G (v := b) (by omega) (by decide)) lm_X8_60 zt_yX8_in rfl rfl rfl (Nat.le_of_ble_eq_true rfl) (Nat.le_of_ble_eq_true rfl) (Nat.le_of_ble_eq_true rfl) (by exact Nat.le_refl _) (by exact Nat.le_refl _) ?_
    refine e_if_eq 33 23 dX8_old_20 (by decide) rfl (fun h20 => ?_) (fun h20 => ?_)
    · have h20 := zB_0 h20
      rw [vR_ab h9] at h20
      refine e_ldc2_w 36 lc_X8_216 dX8_old_33 rfl ?_
      refine e_lreturn dX8_old_36 rfl ?_
      exact ⟨_, rfl, (iteN (fun q => by first | exact h9 q.1 | exact h20 ⟨q.2.1, q.2.2.1⟩ | exact h30 q.2.2.2)).symm, hY, fun q hq => hfr q (by omega), rfl, rfl⟩
    · have h20 := zB_1 h20
      rw [vR_ab h9] at h20
      obtain ⟨eb, hb9⟩ := h20.1.nat
      refine e_iload 25 dX8_old_23 rfl rfl ?_
      refine e_iconst 26 hic_0 dX8_old_25 rfl ?_
      refine e_iconst 27 hic_1 dX8_old_26 rfl ?_
      refine c_Sqi 30 dX8_old_27 (k_X8_inN G (by decide) (by decide)) lm_X8_60 zt_yX8_in rfl rfl rfl (Nat.le_of_ble_eq_true rfl) (Nat.le_of_ble_eq_true rfl) (Nat.le_of_ble_eq_true rfl) (by exact Nat.le_refl _) (by exact Nat.le_refl _) ?_
      refine e_if_ne 37 33 dX8_old_30 (by decide) rfl (fun h30 => ?_) (fun h30 => ?_)
      · have h30 := zB_1 h30
        obtain ⟨ewhat, hw9⟩ := h30.nat
        have hok : sOldOk a b what := ⟨h9, h20.1, h20.2, h30⟩
        have eA : sOld Λ m on nt a b what = if zWs9 Λ m on nt 10 69 = 0 then -2 else sFrac (lN (zWs9 Λ m on nt (zK a) (zK b))) (zWs9 Λ m on nt (zK a) (zK b)) (zWs9 Λ m on nt 10 69) (zK what) := iteP hok
        rw [eA]
        have h20b := h20.2
        clear eA hok h9 h20 h30
        generalize zK a = a9 at ea ha9 h20b ⊢
        generalize zK b = b9 at eb hb9 h20b ⊢
        generalize zK what = k9 at ewhat hw9 ⊢
        subst ea eb ewhat
        have hall := zWs_le9 (on := on) (nt := nt) hW hmw (a := 10) (b := 69) (by decide) (by decide)
        have hpar := zWs_le9 (on := on) (nt := nt) hW hmw (a := a9) (b := b9) (by omega) (by omega)
        refine e_aload_n 38 dX8_old_37 rfl rfl ?_
        refine e_iload_n 39 dX8_old_38 rfl rfl ?_
        refine e_iload_n 40 dX8_old_39 rfl rfl ?_
        refine e_bipush 42 hbi_10 dX8_old_40 rfl ?_
        refine e_bipush 44 hbi_69 dX8_old_42 rfl ?_
        refine c_Vql 47 (ci := 8) dX8_old_44 (k_X8_weights G hr hd hW hs hmw (by decide) (by decide) (by decide)) lm_X8_218 zi_yX8_weights zs_yX8_weights rfl rfl (by decide) rfl rfl rfl (Nat.le_of_ble_eq_true rfl) (Nat.le_of_ble_eq_true rfl) (Nat.le_of_ble_eq_true rfl) (by exact Nat.le_refl _) (by exact Nat.le_refl _) ?_
        refine e_lstore 49 dX8_old_47 rfl (by decide) (zst2_6 rfl) ?_
        refine e_lload 51 dX8_old_49 rfl rfl ?_
        refine e_lconst 52 (v := lN 0) rfl dX8_old_51 rfl ?_
        refine e_lcmp 53 dX8_old_52 rfl ?_
        refine e_if_ne 62 56 dX8_old_53 (by decide) rfl (fun h53 => ?_) (fun h53 => ?_)
        · have h53 : ¬ zWs9 Λ m on nt 10 69 = 0 := fun z => h53 ((lg_cmp_eq _ _).mpr (by rw [z]))
          refine e_aload_n 63 dX8_old_62 rfl rfl ?_
          refine e_iload_n 64 dX8_old_63 rfl rfl ?_
          refine e_iload_n 65 dX8_old_64 rfl rfl ?_
          refine e_iload_n 66 dX8_old_65 rfl rfl ?_
          refine e_iload 68 dX8_old_66 rfl rfl ?_
          refine c_Vql 71 (ci := 8) dX8_old_68 (k_X8_weights G hr hd hW hs hmw (by omega) (by omega) (by omega)) lm_X8_218 zi_yX8_weights zs_yX8_weights rfl rfl (by decide) rfl rfl rfl (Nat.le_of_ble_eq_true rfl) (Nat.le_of_ble_eq_true rfl) (Nat.le_of_ble_eq_true rfl) (by exact Nat.le_refl _) (by exact Nat.le_refl _) ?_
          refine e_lload 73 dX8_old_71 rfl rfl ?_
          refine e_iload 75 dX8_old_73 rfl rfl ?_
          refine c_Sql 78 dX8_old_75 (k_X8_part G (Or.inl rfl) (by omega) (by omega) (by omega) (by omega)) lm_X8_223 zt_yX8_part rfl rfl rfl (Nat.le_of_ble_eq_true rfl) (Nat.le_of_ble_eq_true rfl) (Nat.le_of_ble_eq_true rfl) (by exact Nat.le_refl _) (by exact Nat.le_refl _) ?_
          refine e_lreturn dX8_old_78 rfl ?_
          exact ⟨_, rfl, by first | rw [if_pos h53] | rw [if_neg h53], hY, fun q hq => hfr q (by omega), rfl, rfl⟩
        · have h53 : zWs9 Λ m on nt 10 69 = 0 := (lN_lt63 (by omega) (by decide)).2.mp ((lg_cmp_eq _ _).mp h53)
          refine e_ldc2_w 59 lc_X8_221 dX8_old_56 rfl ?_
          refine e_goto 78 dX8_old_59 (by decide) ?_
          refine e_lreturn dX8_old_78 rfl ?_
          exact ⟨_, rfl, by first | rw [if_pos h53] | rw [if_neg h53], hY, fun q hq => hfr q (by omega), rfl, rfl⟩
      · have h30 := zB_0 h30
        refine e_ldc2_w 36 lc_X8_216 dX8_old_33 rfl ?_
        refine e_lreturn dX8_old_36 rfl ?_
        exact ⟨_, rfl, (iteN (fun q => by first | exact h9 q.1 | exact h20 ⟨q.2.1, q.2.2.1⟩ | exact h30 q.2.2.2)).symm, hY, fun q hq => hfr q (by omega), rfl, rfl⟩

