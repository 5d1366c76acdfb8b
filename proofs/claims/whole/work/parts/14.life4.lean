/-- what note writes at year y: the young of each place, the means -/
def zNoted (L N y : Nat) (sh : Nat → Nat → Nat) (mi a : zFi) : Prop := (∀ q, q < L + 6 ∨ L + 11 ≤ q → a q = mi q) ∧ (∀ p, p < N → a (L + 6 + p) = zu (mi (L + 6 + p)) y (nI (zYoung (sh p)))) ∧ a (L + 9) = zu (mi (L + 9)) y (nI (zsum (fun p => zYoung (sh p)) 0 N / N)) ∧ a (L + 10) = zu (mi (L + 10)) y (nI (zsum (fun p => zPar (sh p)) 0 N / N))
def zNoteI (L y p : Nat) (sh : Nat → Nat → Nat) (mi m : zFi) : Prop := (∀ q, q < L + 6 ∨ L + 9 ≤ q → m q = mi q) ∧ (∀ j, j < p → m (L + 6 + j) = zu (mi (L + 6 + j)) y (nI (zYoung (sh j)))) ∧ ∀ j, p ≤ j → j < 3 → m (L + 6 + j) = mi (L + 6 + j)
set_option maxHeartbeats 4000000 in
set_option maxRecDepth 100000 in
theorem l_X2_note (G : zG) (Q : zQ) {L N y : Nat} {sh : Nat → Nat → Nat} {mi : zFi} {ml : zFl} {mr : zFr} (hL : zLife mr L) (hN : N ≤ 3) (hy : y < 100) (hr : ∀ p, p < N → zRow mi (L + 2 + p) (sh p)) (hle : ∀ p, p < N → zLe (sh p)) : ∀ (k p ys ps : Nat) (m : zFi), p + k = N → ys = zsum (fun j => zYoung (sh j)) 0 p → ps = zsum (fun j => zPar (sh j)) 0 p → zNoteI L y p sh mi m → (∀ a, zNoted L N y sh mi a → Q none a ml mr) → zE G (zRm 2 238 238) (zQm G 238 238 Q) yX2_note.cls yX2_note.name cX2_note 6 none 238 8 [.ref L, .int (nI N), .int (nI y), .int (nI ys), .int (nI ps), .int (nI p)] [] 238 m ml mr := by
  intro k
  induction k with
  | zero =>
    intro p ys ps m h hys hps hI hQ
    have hl9 := hL.lt
    refine e_iload 10 dX2_note_8 rfl rfl ?_
    refine e_iload_n 11 dX2_note_10 rfl rfl ?_
    refine e_icmp_geN 60 14 dX2_note_11 (by decide) rfl (by omega) (by omega) (fun h11 => ?_) (fun h11 => ?_)
    · have hpN : N = p := by omega
      subst hpN
      subst hys; subst hps
      refine e_aload_n 61 dX2_note_60 rfl rfl ?_
      refine e_getr 64 dX2_note_61 lf_X2_19 rfl rfl hL.k0 hL.l0 hL.r2 ?_
      refine e_iload_n 65 dX2_note_64 rfl rfl ?_
      refine e_iload_n 66 dX2_note_65 rfl rfl ?_
      refine e_iload_n 67 dX2_note_66 rfl rfl ?_
      refine c_Sqi 70 dX2_note_67 (k_X7_mean G (by have := zsum_le (f := fun j => zYoung (sh j)) (M := 1000) N 0 (fun i h1 h2 => zYoung_le (hle i (by omega))); omega) (by omega)) lm_X2_139 zt_yX7_mean rfl rfl rfl (Nat.le_of_ble_eq_true rfl) (Nat.le_of_ble_eq_true rfl) (Nat.le_of_ble_eq_true rfl) (Nat.le_refl _) (Nat.le_refl _) ?_
      refine e_iast 71 dX2_note_70 rfl hL.k9 hL.l9 rfl (hL.n9 hy) ?_
      refine e_aload_n 72 dX2_note_71 rfl rfl ?_
      refine e_getr 75 dX2_note_72 lf_X2_23 rfl rfl hL.k0 hL.l0 hL.r3 ?_
      refine e_iload_n 76 dX2_note_75 rfl rfl ?_
      refine e_iload 78 dX2_note_76 rfl rfl ?_
      refine e_iload_n 79 dX2_note_78 rfl rfl ?_
      refine c_Sqi 82 dX2_note_79 (k_X7_mean G (by have := zsum_le (f := fun j => zPar (sh j)) (M := 1000) N 0 (fun i h1 h2 => zPar_le (hle i (by omega))); omega) (by omega)) lm_X2_139 zt_yX7_mean rfl rfl rfl (Nat.le_of_ble_eq_true rfl) (Nat.le_of_ble_eq_true rfl) (Nat.le_of_ble_eq_true rfl) (Nat.le_refl _) (Nat.le_refl _) ?_
      refine e_iast 83 dX2_note_82 rfl hL.k10 hL.l10 rfl (hL.n10 hy) ?_
      refine e_vreturn dX2_note_83 rfl ?_
      refine hQ _ ⟨fun q hq => ?_, fun j hj => ?_, ?_, ?_⟩
      · rw [zp_r _ _ _ (by omega), zp_r _ _ _ (by omega)]; exact hI.1 q (by omega)
      · rw [zp_r _ _ _ (by omega), zp_r _ _ _ (by omega)]; exact hI.2.1 j hj
      · rw [zp_r _ _ _ (by omega), zp_row, hI.1 _ (by omega)]
      · rw [zp_row, zp_r _ _ _ (by omega), hI.1 _ (by omega)]
    · exact absurd h11 (by omega)
  | succ k ih =>
    intro p ys ps m h hys hps hI hQ
    have hl9 := hL.lt
    refine e_iload 10 dX2_note_8 rfl rfl ?_
    refine e_iload_n 11 dX2_note_10 rfl rfl ?_
    refine e_icmp_geN 60 14 dX2_note_11 (by decide) rfl (by omega) (by omega) (fun h11 => ?_) (fun h11 => ?_)
    · exact absurd h11 (by omega)
    · refine e_aload_n 15 dX2_note_14 rfl rfl ?_
      refine e_getr 18 dX2_note_15 lf_X2_16 rfl rfl hL.k0 hL.l0 hL.r1 ?_
      refine e_iload 20 dX2_note_18 rfl rfl ?_
      refine e_aald 21 dX2_note_20 rfl hL.k5 hL.l5 rfl (hL.n5 (by omega)) (hL.yg (by omega)) ?_
      refine e_iload_n 22 dX2_note_21 rfl rfl ?_
      refine e_aload_n 23 dX2_note_22 rfl rfl ?_
      refine e_iload 25 dX2_note_23 rfl rfl ?_
      refine e_iconst 26 hic_0 dX2_note_25 rfl ?_
      refine c_Vqi 29 (ci := 2) dX2_note_26 (k_X2_measure_0 G hL (by omega) (by intro a h1 h2; rw [hI.1 _ (by omega)]; exact hr p (by omega) a h1 h2) (hle p (by omega))) lm_X2_71 zi_yX2_measure zs_yX2_measure rfl hL.k0 hL.l0 rfl rfl rfl (Nat.le_of_ble_eq_true rfl) (Nat.le_of_ble_eq_true rfl) (Nat.le_of_ble_eq_true rfl) (Nat.le_refl _) (Nat.le_refl _) ?_
      refine e_iast 30 dX2_note_29 rfl (hL.ky (by omega)) (hL.ly (by omega)) rfl (hL.nb (by omega) hy) ?_
      refine e_iload_n 31 dX2_note_30 rfl rfl ?_
      refine e_aload_n 32 dX2_note_31 rfl rfl ?_
      refine e_getr 35 dX2_note_32 lf_X2_16 rfl rfl hL.k0 hL.l0 hL.r1 ?_
      refine e_iload 37 dX2_note_35 rfl rfl ?_
      refine e_aald 38 dX2_note_37 rfl hL.k5 hL.l5 rfl (hL.n5 (by omega)) (hL.yg (by omega)) ?_
      refine e_iload_n 39 dX2_note_38 rfl rfl ?_
      refine e_iald 40 dX2_note_39 rfl (hL.ky (by omega)) (hL.ly (by omega)) rfl (hL.nb (by omega) hy) (zp_s _ _ _ _) ?_
      first | refine e_iaddN 41 dX2_note_40 rfl ?_ | refine e_iadd 41 dX2_note_40 rfl ?_
      refine e_istore_n 42 dX2_note_41 rfl (by decide) (zst1_3 rfl) ?_
      refine e_iload 44 dX2_note_42 rfl rfl ?_
      refine e_aload_n 45 dX2_note_44 rfl rfl ?_
      refine e_iload 47 dX2_note_45 rfl rfl ?_
      refine e_iconst 48 hic_1 dX2_note_47 rfl ?_
      refine c_Vqi 51 (ci := 2) dX2_note_48 (k_X2_measure_1 G hL (by omega) (by intro a h1 h2; rw [zp_r _ _ _ (by omega), hI.1 _ (by omega)]; exact hr p (by omega) a h1 h2) (hle p (by omega))) lm_X2_71 zi_yX2_measure zs_yX2_measure rfl hL.k0 hL.l0 rfl rfl rfl (Nat.le_of_ble_eq_true rfl) (Nat.le_of_ble_eq_true rfl) (Nat.le_of_ble_eq_true rfl) (Nat.le_refl _) (Nat.le_refl _) ?_
      first | refine e_iaddN 52 dX2_note_51 rfl ?_ | refine e_iadd 52 dX2_note_51 rfl ?_
      refine e_istore 54 dX2_note_52 rfl (by decide) (zst1_4 rfl) ?_
      refine e_iinc 57 dX2_note_54 rfl (by decide) rfl (z_inc hii_1) (zst1_5 rfl) ?_
      refine e_goto 8 dX2_note_57 (by decide) ?_
      refine ih (p + 1) _ _ _ (by omega) ?_ ?_ ⟨fun q hq => ?_, fun j hj => ?_, fun j h1 h2 => ?_⟩ hQ
      · rw [hys, zsum_last, Nat.zero_add]; rfl
      · rw [hps, zsum_last, Nat.zero_add]; rfl
      · rw [zp_r _ _ _ (by omega)]; exact hI.1 q hq
      · by_cases e : j = p
        · subst e; rw [zp_row, hI.2.2 j (by omega) (by omega)]; rfl
        · rw [zp_r _ _ _ (by omega)]; exact hI.2.1 j (by omega)
      · rw [zp_r _ _ _ (by omega)]; exact hI.2.2 j (by omega) h2
set_option maxHeartbeats 4000000 in
set_option maxRecDepth 100000 in
theorem k_X2_note (G : zG) {L N y : Nat} {sh : Nat → Nat → Nat} {mi : zFi} {ml : zFl} {mr : zFr} (hL : zLife mr L) (hN : N ≤ 3) (hy : y < 100) (hr : ∀ p, p < N → zRow mi (L + 2 + p) (sh p)) (hle : ∀ p, p < N → zLe (sh p)) : zMet G 2 yX2_note cX2_note 6 none [.ref L, .int (nI N), .int (nI y)] 238 mi ml mr 238 (zPv fun a b c => zNoted L N y sh mi a ∧ b = ml ∧ c = mr) := by
  refine z_intro ([.ref L, .int (nI N), .int (nI y), zx, zx, zx]) (by decide) rfl (Nat.le_of_ble_eq_true rfl) ?_
  refine e_iconst 1 hic_0 dX2_note_0 rfl ?_
  refine e_istore_n 2 dX2_note_1 rfl (by decide) (zst1_3 rfl) ?_
  refine e_iconst 3 hic_0 dX2_note_2 rfl ?_
  refine e_istore 5 dX2_note_3 rfl (by decide) (zst1_4 rfl) ?_
  refine e_iconst 6 hic_0 dX2_note_5 rfl ?_
  refine e_istore 8 dX2_note_6 rfl (by decide) (zst1_5 rfl) ?_
  exact l_X2_note G _ hL hN hy hr hle N 0 0 0 mi (by omega) rfl rfl ⟨fun _ _ => rfl, fun _ h => absurd h (Nat.not_lt_zero _), fun _ _ _ => rfl⟩ (fun a h => ⟨rfl, h, rfl, rfl⟩)

/-- shares of a word in all places: raised at place p, ages a1 .. a2, to v at least -/
def zRaise (p a1 a2 v : Nat) (sh : Nat → Nat → Nat) : Nat → Nat → Nat := fun q => if q = p then zRaise1 a1 a2 v (sh q) else sh q
/-- the songs i, i + 1 .. (k of them) of year y with word w -/
def zSing (S : zLd) (w y : Nat) : Nat → Nat → (Nat → Nat → Nat) → Nat → Nat → Nat
  | 0, _, sh => sh
  | k + 1, i, sh => zSing S w y k (i + 1) (if S 1 i = y ∧ S 2 i = w then zRaise (S 3 i) 13 19 (10 * S 4 i) sh else sh)
def zCoin (T : zLd) (w y : Nat) (sh : Nat → Nat → Nat) : Nat → Nat → Nat := if T 3 w = y then zRaise (T 4 w) 15 17 (10 * T 0 5) sh else sh
def zArr (T S : zLd) (w y : Nat) (sh : Nat → Nat → Nat) : Nat → Nat → Nat := if T 3 w ≤ y then zSing S w y (S 0 0) 0 (zCoin T w y sh) else zCoin T w y sh
theorem zRaise_le {p a1 a2 v N : Nat} {sh : Nat → Nat → Nat} (hv : v ≤ 1000) (h : ∀ q, q < N → zLe (sh q)) : ∀ q, q < N → zLe (zRaise p a1 a2 v sh q) := fun q hq => by
  unfold zRaise
  split
  · exact zRaise1_le hv (h q hq)
  · exact h q hq
/-- the rows of a life hold sh, and only they have changed -/
def zRows (L N : Nat) (sh : Nat → Nat → Nat) (a : zFi) : Prop := ∀ p, p < N → zRow a (L + 2 + p) (sh p)
def zOnlyS (L : Nat) (mi a : zFi) : Prop := ∀ q, q < L + 2 ∨ L + 5 ≤ q → a q = mi q
theorem zRows_raise {L N p a1 a2 v : Nat} {sh : Nat → Nat → Nat} {mi a : zFi} (h : zRows L N sh mi) (h1 : zOnly (L + 2 + p) mi a) (h2 : zRow a (L + 2 + p) (zRaise1 a1 a2 v (sh p))) : zRows L N (zRaise p a1 a2 v sh) a := by
  intro q hq
  unfold zRaise
  by_cases e : q = p
  · subst e
    rw [if_pos rfl]
    exact h2
  · rw [if_neg e]
    intro x hx1 hx2
    rw [h1 _ (by omega)]
    exact h q hq x hx1 hx2
theorem zSing_le {S : zLd} {w y N : Nat} : ∀ (k i : Nat) (sh : Nat → Nat → Nat), (∀ j, i ≤ j → j < i + k → S 4 j ≤ 99) → (∀ q, q < N → zLe (sh q)) → ∀ q, q < N → zLe (zSing S w y k i sh q)
  | 0, _, _, _, h => h
  | k + 1, i, sh, hS, h => by
    refine zSing_le k (i + 1) _ (fun j h1 h2 => hS j (by omega) (by omega)) ?_
    split
    · exact zRaise_le (by have := hS i (by omega) (by omega); omega) h
    · exact h
theorem zCoin_le {T : zLd} {w y N : Nat} {sh : Nat → Nat → Nat} (hT : T 0 5 ≤ 99) (h : ∀ q, q < N → zLe (sh q)) : ∀ q, q < N → zLe (zCoin T w y sh q) := by
  unfold zCoin
  split
  · exact zRaise_le (by omega) h
  · exact h
theorem zArr_le {T S : zLd} {w y N : Nat} {sh : Nat → Nat → Nat} (hT : T 0 5 ≤ 99) (hS : ∀ j, j < S 0 0 → S 4 j ≤ 99) (h : ∀ q, q < N → zLe (sh q)) : ∀ q, q < N → zLe (zArr T S w y sh q) := by
  unfold zArr
  split
  · exact zSing_le _ _ _ (fun j h1 h2 => hS j (by omega)) (zCoin_le hT h)
  · exact zCoin_le hT h
set_option maxHeartbeats 4000000 in
set_option maxRecDepth 100000 in
theorem l_X2_arrive (G : zG) (Q : zQ) {L D B N w y : Nat} {Λ S : zLd} {ml : zFl} {mr : zFr} (hL : zLife mr L) (hD : zLandL mr D) (hB : zSongL mr B) (hW : zLandW Λ) (hS : zSongW (Λ 0 0) (Λ 0 1) S) (hN : N = Λ 0 0) (hw : w < Λ 0 1) (hy : y < 100) (hDL : D + 6 ≤ L ∨ L + 11 ≤ D) (hBL : B + 5 ≤ L ∨ L + 11 ≤ B) : ∀ (k i : Nat) (sh : Nat → Nat → Nat) (m : zFi), i + k = S 0 0 → zLandR m D Λ → zSongR m B S → zRows L N sh m → (∀ p, p < N → zLe (sh p)) → (∀ a, zOnlyS L m a → zRows L N (zSing S w y k i sh) a → Q none a ml mr) → zE G (zRm 2 238 238) (zQm G 238 238 Q) yX2_arrive.cls yX2_arrive.name cX2_arrive 6 none 238 46 [.ref L, .ref D, .ref B, .int (nI w), .int (nI y), .int (nI i)] [] 238 m ml mr := by
  intro k
  induction k with
  | zero =>
    intro i sh m h hΛ hSg hR hle hQ
    refine e_iload 48 dX2_arrive_46 rfl rfl ?_
    refine e_aload_n 49 dX2_arrive_48 rfl rfl ?_
    refine e_geti 52 dX2_arrive_49 lf_X2_122 rfl rfl hB.k0 hB.l0 hSg.1 ?_
    refine e_icmp_geN 109 55 dX2_arrive_52 (by decide) rfl (by have := hS.1; omega) (by have := hS.1; omega) (fun h52 => ?_) (fun h52 => ?_)
    · refine e_vreturn dX2_arrive_109 rfl ?_
      exact hQ m (fun _ _ => rfl) hR
    · exact absurd h52 (by omega)
  | succ k ih =>
    intro i sh m h hΛ hSg hR hle hQ
    refine e_iload 48 dX2_arrive_46 rfl rfl ?_
    refine e_aload_n 49 dX2_arrive_48 rfl rfl ?_
    refine e_geti 52 dX2_arrive_49 lf_X2_122 rfl rfl hB.k0 hB.l0 hSg.1 ?_
    refine e_icmp_geN 109 55 dX2_arrive_52 (by decide) rfl (by have := hS.1; omega) (by have := hS.1; omega) (fun h52 => ?_) (fun h52 => ?_)
    · exact absurd h52 (by omega)
    · refine e_aload_n 56 dX2_arrive_55 rfl rfl ?_
      refine e_getr 59 dX2_arrive_56 lf_X2_127 rfl rfl hB.k0 hB.l0 hB.r1 ?_
      refine e_iload 61 dX2_arrive_59 rfl rfl ?_
      refine e_iald 62 dX2_arrive_61 rfl (hB.k (j := 1) (by decide) (by decide)) (hB.l (j := 1) (by decide)) rfl (by rw [hB.n (j := 1) (by decide) (by decide)]; have := hS.1; omega) (hSg.2 i (by omega)).1 ?_
      refine e_iload 64 dX2_arrive_62 rfl rfl ?_
      refine e_icmp_neN 103 67 dX2_arrive_64 (by decide) rfl (by have := hS.2 i (by omega); omega) (by omega) (fun h64 => ?_) (fun h64 => ?_)
      · refine e_iinc 106 dX2_arrive_103 rfl (by decide) rfl (z_inc hii_1) (zst1_5 rfl) ?_
        refine e_goto 46 dX2_arrive_106 (by decide) ?_
        have e : zSing S w y (k + 1) i sh = zSing S w y k (i + 1) sh := by
          show zSing S w y k (i + 1) (if S 1 i = y ∧ S 2 i = w then _ else sh) = _
          rw [if_neg (by omega)]
        rw [e] at hQ
        exact ih (i + 1) sh m (by omega) hΛ hSg hR hle hQ
      · refine e_aload_n 68 dX2_arrive_67 rfl rfl ?_
        refine e_getr 71 dX2_arrive_68 lf_X2_128 rfl rfl hB.k0 hB.l0 hB.r2 ?_
        refine e_iload 73 dX2_arrive_71 rfl rfl ?_
        refine e_iald 74 dX2_arrive_73 rfl (hB.k (j := 2) (by decide) (by decide)) (hB.l (j := 2) (by decide)) rfl (by rw [hB.n (j := 2) (by decide) (by decide)]; have := hS.1; omega) (hSg.2 i (by omega)).2.1 ?_
        refine e_iload_n 75 dX2_arrive_74 rfl rfl ?_
        refine e_icmp_neN 103 78 dX2_arrive_75 (by decide) rfl (by have := hS.2 i (by omega); have := hW.1.2.1; omega) (by have := hW.1.2.1; omega) (fun h75 => ?_) (fun h75 => ?_)
        · refine e_iinc 106 dX2_arrive_103 rfl (by decide) rfl (z_inc hii_1) (zst1_5 rfl) ?_
          refine e_goto 46 dX2_arrive_106 (by decide) ?_
          have e : zSing S w y (k + 1) i sh = zSing S w y k (i + 1) sh := by
            show zSing S w y k (i + 1) (if S 1 i = y ∧ S 2 i = w then _ else sh) = _
            rw [if_neg (by omega)]
          rw [e] at hQ
          exact ih (i + 1) sh m (by omega) hΛ hSg hR hle hQ
        · refine e_aload_n 79 dX2_arrive_78 rfl rfl ?_
          refine e_aload_n 80 dX2_arrive_79 rfl rfl ?_
          refine e_getr 83 dX2_arrive_80 lf_X2_131 rfl rfl hB.k0 hB.l0 hB.r3 ?_
          refine e_iload 85 dX2_arrive_83 rfl rfl ?_
          refine e_iald 86 dX2_arrive_85 rfl (hB.k (j := 3) (by decide) (by decide)) (hB.l (j := 3) (by decide)) rfl (by rw [hB.n (j := 3) (by decide) (by decide)]; have := hS.1; omega) (hSg.2 i (by omega)).2.2.1 ?_
          refine e_bipush 88 hbi_13 dX2_arrive_86 rfl ?_
          refine e_bipush 90 hbi_19 dX2_arrive_88 rfl ?_
          refine e_bipush 92 hbi_10 dX2_arrive_90 rfl ?_
          refine e_aload_n 93 dX2_arrive_92 rfl rfl ?_
          refine e_getr 96 dX2_arrive_93 lf_X2_133 rfl rfl hB.k0 hB.l0 hB.r4 ?_
          refine e_iload 98 dX2_arrive_96 rfl rfl ?_
          refine e_iald 99 dX2_arrive_98 rfl (hB.k (j := 4) (by decide) (by decide)) (hB.l (j := 4) (by decide)) rfl (by rw [hB.n (j := 4) (by decide) (by decide)]; have := hS.1; omega) (hSg.2 i (by omega)).2.2.2 ?_
          first | refine e_imulN 100 dX2_arrive_99 rfl ?_ | refine e_imul 100 dX2_arrive_99 rfl ?_
          refine c_Vv 103 (ci := 2) dX2_arrive_100 (k_X2_raise G hL (by have := (hS.2 i (by omega)).2.2.1; have := hW.1.1; omega) (by decide) (by decide) (by decide) (by have := hS.2 i (by omega); omega) (hle _ (by have := (hS.2 i (by omega)).2.2.1; omega)) (hR _ (by have := (hS.2 i (by omega)).2.2.1; omega))) lm_X2_118 zi_yX2_raise zs_yX2_raise rfl hL.k0 hL.l0 rfl rfl rfl (Nat.le_of_ble_eq_true rfl) (Nat.le_of_ble_eq_true rfl) (Nat.le_of_ble_eq_true rfl) (Nat.le_refl _) (Nat.le_refl _) ?_
          rintro a _ _ ⟨g1, g2, rfl, rfl⟩
          refine e_iinc 106 dX2_arrive_103 rfl (by decide) rfl (z_inc hii_1) (zst1_5 rfl) ?_
          refine e_goto 46 dX2_arrive_106 (by decide) ?_
          have e : zSing S w y (k + 1) i sh = zSing S w y k (i + 1) (zRaise (S 3 i) 13 19 (10 * S 4 i) sh) := by
            show zSing S w y k (i + 1) (if S 1 i = y ∧ S 2 i = w then _ else sh) = _
            rw [if_pos ⟨h64, h75⟩]
          rw [e] at hQ
          have hpl := (hS.2 i (by omega)).2.2.1
          have hP3 := hW.1.1
          refine ih (i + 1) _ a (by omega) (hΛ.congr (fun j hj => g1 _ (by omega))) (hSg.congr (fun j hj => g1 _ (by omega))) (zRows_raise hR g1 g2) (zRaise_le (by have := hS.2 i (by omega); omega) hle) (fun b h1 h2 => hQ b (fun q hq => (h1 q hq).trans (g1 q (by omega))) h2)
set_option maxHeartbeats 4000000 in
set_option maxRecDepth 100000 in
theorem k_X2_arrive (G : zG) {L D B N w y : Nat} {Λ S : zLd} {sh : Nat → Nat → Nat} {mi : zFi} {ml : zFl} {mr : zFr} (hL : zLife mr L) (hD : zLandL mr D) (hB : zSongL mr B) (hW : zLandW Λ) (hS : zSongW (Λ 0 0) (Λ 0 1) S) (hN : N = Λ 0 0) (hw : w < Λ 0 1) (hy : y < 100) (hDL : D + 6 ≤ L ∨ L + 11 ≤ D) (hBL : B + 5 ≤ L ∨ L + 11 ≤ B) (hΛ : zLandR mi D Λ) (hSg : zSongR mi B S) (hR : zRows L N sh mi) (hle : ∀ p, p < N → zLe (sh p)) : zMet G 2 yX2_arrive cX2_arrive 6 none [.ref L, .ref D, .ref B, .int (nI w), .int (nI y)] 238 mi ml mr 238 (zPv fun a b c => zOnlyS L mi a ∧ zRows L N (zArr Λ S w y sh) a ∧ b = ml ∧ c = mr) := by
  refine z_intro ([.ref L, .ref D, .ref B, .int (nI w), .int (nI y), zx]) (by decide) rfl (Nat.le_of_ble_eq_true rfl) ?_
  refine e_aload_n 1 dX2_arrive_0 rfl rfl ?_
  refine e_getr 4 dX2_arrive_1 lf_X2_64 rfl rfl hD.k0 hD.l0 hD.r3 ?_
  refine e_iload_n 5 dX2_arrive_4 rfl rfl ?_
  refine e_iald 6 dX2_arrive_5 rfl hD.k3 (hD.l (j := 3) (by decide)) rfl (by rw [hD.n3]; have := hW.1.2.1; omega) (hΛ.2.2 w hw).2.1 ?_
  refine e_iload 8 dX2_arrive_6 rfl rfl ?_
  refine e_icmp_neN 32 11 dX2_arrive_8 (by decide) rfl (by have := hW.2.2 w hw; omega) (by omega) (fun h8 => ?_) (fun h8 => ?_)
  · refine e_aload_n 33 dX2_arrive_32 rfl rfl ?_
    refine e_getr 36 dX2_arrive_33 lf_X2_64 rfl rfl hD.k0 hD.l0 hD.r3 ?_
    refine e_iload_n 37 dX2_arrive_36 rfl rfl ?_
    refine e_iald 38 dX2_arrive_37 rfl hD.k3 (hD.l (j := 3) (by decide)) rfl (by rw [hD.n3]; have := hW.1.2.1; omega) (hΛ.2.2 w hw).2.1 ?_
    refine e_iload 40 dX2_arrive_38 rfl rfl ?_
    refine e_icmp_gtN 109 43 dX2_arrive_40 (by decide) rfl (by have := hW.2.2 w hw; omega) (by omega) (fun h40 => ?_) (fun h40 => ?_)
    · refine e_vreturn dX2_arrive_109 rfl ?_
      first
        | exact ⟨rfl, hon, by unfold zArr; rw [if_neg (by omega)]; exact hR, rfl, rfl⟩
        | exact ⟨rfl, fun _ _ => rfl, by unfold zArr; rw [if_neg (by omega), show zCoin Λ w y sh = sh from if_neg h8]; exact hR, rfl, rfl⟩
    · refine e_iconst 44 hic_0 dX2_arrive_43 rfl ?_
      refine e_istore 46 dX2_arrive_44 rfl (by decide) (zst1_5 rfl) ?_
      first
        | exact l_X2_arrive G _ hL hD hB hW hS hN hw hy hDL hBL (S 0 0) 0 _ _ (by omega) hΛ hSg hR hle (fun b h1 h2 => ⟨rfl, fun q hq => (h1 q hq).trans (hon q hq), by unfold zArr; rw [if_pos h40]; exact h2, rfl, rfl⟩)
        | exact l_X2_arrive G _ hL hD hB hW hS hN hw hy hDL hBL (S 0 0) 0 _ _ (by omega) hΛ hSg hR hle (fun b h1 h2 => ⟨rfl, h1, by unfold zArr; rw [if_pos h40, show zCoin Λ w y sh = sh from if_neg h8]; exact h2, rfl, rfl⟩)
  · refine e_aload_n 12 dX2_arrive_11 rfl rfl ?_
    refine e_aload_n 13 dX2_arrive_12 rfl rfl ?_
    refine e_getr 16 dX2_arrive_13 lf_X2_112 rfl rfl hD.k0 hD.l0 hD.r4 ?_
    refine e_iload_n 17 dX2_arrive_16 rfl rfl ?_
    refine e_iald 18 dX2_arrive_17 rfl hD.k4 (hD.l (j := 4) (by decide)) rfl (by rw [hD.n4]; have := hW.1.2.1; omega) (hΛ.2.2 w hw).2.2.1 ?_
    refine e_bipush 20 hbi_15 dX2_arrive_18 rfl ?_
    refine e_bipush 22 hbi_17 dX2_arrive_20 rfl ?_
    refine e_bipush 24 hbi_10 dX2_arrive_22 rfl ?_
    refine e_aload_n 25 dX2_arrive_24 rfl rfl ?_
    refine e_geti 28 dX2_arrive_25 lf_X2_115 rfl rfl hD.k0 hD.l0 (hΛ.f5) ?_
    first | refine e_imulN 29 dX2_arrive_28 rfl ?_ | refine e_imul 29 dX2_arrive_28 rfl ?_
    refine c_Vv 32 (ci := 2) dX2_arrive_29 (k_X2_raise G hL (by have := hW.2.2 w hw; have := hW.1.1; omega) (by decide) (by decide) (by decide) (by have := hW.1; omega) (hle _ (by have := hW.2.2 w hw; omega)) (hR _ (by have := hW.2.2 w hw; omega))) lm_X2_118 zi_yX2_raise zs_yX2_raise rfl hL.k0 hL.l0 rfl rfl rfl (Nat.le_of_ble_eq_true rfl) (Nat.le_of_ble_eq_true rfl) (Nat.le_of_ble_eq_true rfl) (Nat.le_refl _) (Nat.le_refl _) ?_
    rintro a _ _ ⟨g1, g2, rfl, rfl⟩
    have hpl := (hW.2.2 w hw).2.2.1
    have hP3 := hW.1.1
    have hco : zCoin Λ w y sh = zRaise (Λ 4 w) 15 17 (10 * Λ 0 5) sh := if_pos h8
    have hΛ := hΛ.congr (mi' := a) (fun j hj => g1 _ (by omega))
    have hSg := hSg.congr (mi' := a) (fun j hj => g1 _ (by omega))
    have hR : zRows L N (zCoin Λ w y sh) a := by rw [hco]; exact zRows_raise hR g1 g2
    have hle : ∀ p, p < N → zLe (zCoin Λ w y sh p) := zCoin_le hW.1.2.2.2.2.2.2 hle
    have hon : zOnlyS L mi a := fun q hq => g1 q (by omega)
    refine e_aload_n 33 dX2_arrive_32 rfl rfl ?_
    refine e_getr 36 dX2_arrive_33 lf_X2_64 rfl rfl hD.k0 hD.l0 hD.r3 ?_
    refine e_iload_n 37 dX2_arrive_36 rfl rfl ?_
    refine e_iald 38 dX2_arrive_37 rfl hD.k3 (hD.l (j := 3) (by decide)) rfl (by rw [hD.n3]; have := hW.1.2.1; omega) (hΛ.2.2 w hw).2.1 ?_
    refine e_iload 40 dX2_arrive_38 rfl rfl ?_
    refine e_icmp_gtN 109 43 dX2_arrive_40 (by decide) rfl (by have := hW.2.2 w hw; omega) (by omega) (fun h40 => ?_) (fun h40 => ?_)
    · refine e_vreturn dX2_arrive_109 rfl ?_
      first
        | exact ⟨rfl, hon, by unfold zArr; rw [if_neg (by omega)]; exact hR, rfl, rfl⟩
        | exact ⟨rfl, fun _ _ => rfl, by unfold zArr; rw [if_neg (by omega), show zCoin Λ w y sh = sh from if_neg h8]; exact hR, rfl, rfl⟩
    · refine e_iconst 44 hic_0 dX2_arrive_43 rfl ?_
      refine e_istore 46 dX2_arrive_44 rfl (by decide) (zst1_5 rfl) ?_
      first
        | exact l_X2_arrive G _ hL hD hB hW hS hN hw hy hDL hBL (S 0 0) 0 _ _ (by omega) hΛ hSg hR hle (fun b h1 h2 => ⟨rfl, fun q hq => (h1 q hq).trans (hon q hq), by unfold zArr; rw [if_pos h40]; exact h2, rfl, rfl⟩)
        | exact l_X2_arrive G _ hL hD hB hW hS hN hw hy hDL hBL (S 0 0) 0 _ _ (by omega) hΛ hSg hR hle (fun b h1 h2 => ⟨rfl, h1, by unfold zArr; rw [if_pos h40, show zCoin Λ w y sh = sh from if_neg h8]; exact h2, rfl, rfl⟩)

