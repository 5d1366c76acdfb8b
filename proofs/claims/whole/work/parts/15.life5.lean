/-- a word's life: shares now; the young at each year's begin; the parents' means at each year's begin -/
abbrev zSt : Type := (Nat → Nat → Nat) × (Nat → Nat → Nat) × (Nat → Nat)
def zYm (N : Nat) (yg : Nat → Nat → Nat) (y : Nat) : Nat := zsum (fun p => yg p y) 0 N / N
/-- the cells of a life from L on hold x, its notes up to year Y -/
def zLifeR (mi : zFi) (L N Y : Nat) (x : zSt) : Prop := zRows L N x.1 mi ∧ (∀ p, p < N → ∀ y, y ≤ Y → mi (L + 6 + p) y = nI (x.2.1 p y)) ∧ (∀ y, y ≤ Y → mi (L + 9) y = nI (zYm N x.2.1 y)) ∧ ∀ y, y ≤ Y → mi (L + 10) y = nI (x.2.2 y)
def zStW (N Y : Nat) (x : zSt) : Prop := (∀ p, p < N → zLe (x.1 p)) ∧ (∀ p, p < N → ∀ y, y ≤ Y → x.2.1 p y ≤ 1000) ∧ ∀ y, y ≤ Y → x.2.2 y ≤ 1000
theorem zLifeR.congr {mi mi' : zFi} {L N Y : Nat} {x : zSt} (hN : N ≤ 3) (h : zLifeR mi L N Y x) (e : ∀ q, L ≤ q → q < L + 11 → mi' q = mi q) : zLifeR mi' L N Y x := by
  obtain ⟨h1, h2, h3, h4⟩ := h
  refine ⟨fun p hp a g1 g2 => ?_, fun p hp y hy => ?_, fun y hy => ?_, fun y hy => ?_⟩
  · rw [e _ (by omega) (by omega)]; exact h1 p hp a g1 g2
  · rw [e _ (by omega) (by omega)]; exact h2 p hp y hy
  · rw [e _ (by omega) (by omega)]; exact h3 y hy
  · rw [e _ (by omega) (by omega)]; exact h4 y hy
/-- one year in a place's row -/
def zPassRow (T : zLd) (learn w y : Nat) (yg : Nat → Nat → Nat) (p : Nat) (f : Nat → Nat) : Nat → Nat :=
  zLrn (learn * (if 2 ≤ y then yg p (y - 2) else 0)) (zDrop (T 0 4 * (if T 5 w = 0 then zPar f else 0)) (zTake (T 0 2 * zHear (T 1) (fun q => yg q y) p (T 0 0)) (if T 5 w = 0 then zPar f else 0) (zGrow f)))
def zPassSh (T : zLd) (learn w y : Nat) (yg sh : Nat → Nat → Nat) : Nat → Nat → Nat := fun p => if T 3 w ≤ y then zPassRow T learn w y yg p (sh p) else sh p
/-- what note writes -/
def zNote (N y : Nat) (sh yg : Nat → Nat → Nat) (pm : Nat → Nat) : zSt := (sh, fun p => zu (yg p) y (zYoung (sh p)), zu pm y (zsum (fun p => zPar (sh p)) 0 N / N))
/-- a year of a word's life -/
def zPass (T S : zLd) (learn w y : Nat) (x : zSt) : zSt := zNote (T 0 0) (y + 1) (zArr T S w (y + 1) (zPassSh T learn w y x.2.1 x.1)) x.2.1 x.2.2
def zBegin (T S : zLd) (w : Nat) : zSt := zNote (T 0 0) 0 (zArr T S w 0 (fun _ _ => 0)) (fun _ _ => 0) (fun _ => 0)
/-- the life up to a year's begin -/
def zLive (T S : zLd) (learn w : Nat) : Nat → zSt
  | 0 => zBegin T S w
  | y + 1 => zPass T S learn w y (zLive T S learn w y)
theorem zNoted_R {mi a : zFi} {L N Y y : Nat} {sh yg : Nat → Nat → Nat} {pm : Nat → Nat} (hR : zRows L N sh mi) (hN : N ≤ 3) (hyY : ∀ t, t ≤ Y → t < y ∨ t = y) (hg : ∀ p, p < N → ∀ t, t < y → mi (L + 6 + p) t = nI (yg p t)) (hm : ∀ t, t < y → mi (L + 9) t = nI (zYm N yg t)) (hp : ∀ t, t < y → mi (L + 10) t = nI (pm t)) (h : zNoted L N y sh mi a) : zLifeR a L N Y (zNote N y sh yg pm) := by
  obtain ⟨h1, h2, h3, h4⟩ := h
  refine ⟨fun p hp9 x g1 g2 => ?_, fun p hp9 t ht => ?_, fun t ht => ?_, fun t ht => ?_⟩
  · rw [h1 _ (by omega)]; exact hR p hp9 x g1 g2
  · rw [h2 p hp9]
    show _ = nI (zu (yg p) y (zYoung (sh p)) t)
    rcases hyY t ht with q | q
    · rw [zu_n _ _ (by omega), zu_n _ _ (by omega)]; exact hg p hp9 t q
    · subst q; rw [zu_s, zu_s]
  · rw [h3]
    rcases hyY t ht with q | q
    · rw [zu_n _ _ (by omega), hm t q]
      unfold zYm zNote
      congr 2
      apply zsum_congr
      intro i _ _
      dsimp only
      rw [zu_n _ _ (by omega)]
    · subst q
      rw [zu_s]
      unfold zYm zNote
      congr 2
      apply zsum_congr
      intro i _ _
      dsimp only
      rw [zu_s]
  · rw [h4]
    show _ = nI (zu pm y _ t)
    rcases hyY t ht with q | q
    · rw [zu_n _ _ (by omega), zu_n _ _ (by omega)]; exact hp t q
    · subst q; rw [zu_s, zu_s]
theorem zYoung_pm {N : Nat} {sh : Nat → Nat → Nat} (h : ∀ p, p < N → zLe (sh p)) : zsum (fun p => zPar (sh p)) 0 N / N ≤ 1000 := by
  have := zsum_le (f := fun p => zPar (sh p)) (M := 1000) N 0 (fun i _ h2 => zPar_le (h i (by omega)))
  rcases Nat.eq_zero_or_pos N with e | e
  · subst e; simp
  · exact Nat.div_le_of_le_mul this
theorem zNote_W {N Y y : Nat} {sh yg : Nat → Nat → Nat} {pm : Nat → Nat} (hle : ∀ p, p < N → zLe (sh p)) (hyY : ∀ t, t ≤ Y → t < y ∨ t = y) (hg : ∀ p, p < N → ∀ t, t < y → yg p t ≤ 1000) (hp : ∀ t, t < y → pm t ≤ 1000) : zStW N Y (zNote N y sh yg pm) := by
  refine ⟨hle, fun p hp9 t ht => ?_, fun t ht => ?_⟩
  · show zu (yg p) y _ t ≤ 1000
    rcases hyY t ht with q | q
    · rw [zu_n _ _ (by omega)]; exact hg p hp9 t q
    · subst q; rw [zu_s]; exact zYoung_le (hle p hp9)
  · show zu pm y _ t ≤ 1000
    rcases hyY t ht with q | q
    · rw [zu_n _ _ (by omega)]; exact hp t q
    · subst q; rw [zu_s]; exact zYoung_pm hle
theorem zPassRow_le {T : zLd} {learn w y p : Nat} {yg : Nat → Nat → Nat} {f : Nat → Nat} (hT : zLandW T) (hl : learn ≤ 9) (hg : ∀ t, t ≤ y → yg p t ≤ 1000) (hf : zLe f) : zLe (zPassRow T learn w y yg p f) := by
  unfold zPassRow
  have h1 := zHear_le (nr := T 1) (yv := fun q => yg q y) (p := p) (N := T 0 0)
  have h2 : (if T 5 w = 0 then zPar f else 0) ≤ 1000 := by
    split
    · exact zPar_le hf
    · omega
  have h3 : (if 2 ≤ y then yg p (y - 2) else 0) ≤ 1000 := by
    split
    · exact hg _ (by omega)
    · omega
  have h4 := Nat.mul_le_mul hl h3
  have h5 := Nat.mul_le_mul hT.1.2.2.1 h1
  exact zLrn_le (by omega) (zDrop_le (zTake_le (by omega) h2 (zGrow_le hf)))
theorem zPassSh_le {T : zLd} {learn w y N : Nat} {yg sh : Nat → Nat → Nat} (hT : zLandW T) (hl : learn ≤ 9) (hg : ∀ p, p < N → ∀ t, t ≤ y → yg p t ≤ 1000) (hf : ∀ p, p < N → zLe (sh p)) : ∀ p, p < N → zLe (zPassSh T learn w y yg sh p) := fun p hp => by
  unfold zPassSh
  split
  · exact zPassRow_le hT hl (hg p hp) (hf p hp)
  · exact hf p hp
theorem zPass_W {T S : zLd} {learn w y : Nat} {x : zSt} (hT : zLandW T) (hS : zSongW (T 0 0) (T 0 1) S) (hl : learn ≤ 9) (h : zStW (T 0 0) y x) : zStW (T 0 0) (y + 1) (zPass T S learn w y x) :=
  zNote_W (zArr_le hT.1.2.2.2.2.2.2 (fun j hj => (hS.2 j hj).2.2.2.2) (zPassSh_le hT hl h.2.1 h.1)) (fun t ht => by omega) (fun p hp t ht => h.2.1 p hp t (by omega)) (fun t ht => h.2.2 t (by omega))
theorem zBegin_W {T S : zLd} {w : Nat} (hT : zLandW T) (hS : zSongW (T 0 0) (T 0 1) S) : zStW (T 0 0) 0 (zBegin T S w) :=
  zNote_W (zArr_le hT.1.2.2.2.2.2.2 (fun j hj => (hS.2 j hj).2.2.2.2) (fun _ _ _ _ _ => Nat.zero_le _)) (fun t ht => by omega) (fun p hp t ht => absurd ht (Nat.not_lt_zero _)) (fun t ht => absurd ht (Nat.not_lt_zero _))
theorem zLive_W {T S : zLd} {learn w : Nat} (hT : zLandW T) (hS : zSongW (T 0 0) (T 0 1) S) (hl : learn ≤ 9) : ∀ y, zStW (T 0 0) y (zLive T S learn w y)
  | 0 => zBegin_W hT hS
  | y + 1 => zPass_W hT hS hl (zLive_W hT hS hl y)
set_option maxHeartbeats 4000000 in
set_option maxRecDepth 100000 in
theorem l_X2_pass (G : zG) (Q : zQ) {L D B w learn y : Nat} {Λ S : zLd} {x : zSt} {mi : zFi} {ml : zFl} {mr : zFr} (hL : zLife mr L) (hD : zLandL mr D) (hB : zSongL mr B) (hW : zLandW Λ) (hS : zSongW (Λ 0 0) (Λ 0 1) S) (hw : w < Λ 0 1) (hln : learn ≤ 9) (hy : y < 99) (hDL : D + 6 ≤ L ∨ L + 11 ≤ D) (hBL : B + 5 ≤ L ∨ L + 11 ≤ B) (hΛ : zLandR mi D Λ) (hSg : zSongR mi B S) (hR : zLifeR mi L (Λ 0 0) y x) (hX : zStW (Λ 0 0) y x) (hc8 : Λ 3 w ≤ y) : ∀ (k p : Nat) (m : zFi) (v7 : Value), p + k = Λ 0 0 → ((∀ q, q < L + 2 ∨ L + 5 ≤ q → m q = mi q) ∧ (∀ j, j < p → zRow m (L + 2 + j) (zPassSh Λ learn w y x.2.1 x.1 j)) ∧ ∀ j, p ≤ j → j < Λ 0 0 → zRow m (L + 2 + j) (x.1 j)) → (∀ m v7, zOnlyS L mi m → zRows L (Λ 0 0) (zPassSh Λ learn w y x.2.1 x.1) m → zE G (zRm 3 238 238) (zQm G 238 238 Q) yX2_pass.cls yX2_pass.name cX2_pass 8 none 238 110 [.ref L, .ref D, .ref B, .int (nI w), .int (nI learn), .int (nI y), .int (nI (Λ 0 0)), v7] [] 238 m ml mr) → zE G (zRm 3 238 238) (zQm G 238 238 Q) yX2_pass.cls yX2_pass.name cX2_pass 8 none 238 14 [.ref L, .ref D, .ref B, .int (nI w), .int (nI learn), .int (nI y), .int (nI p), v7] [] 238 m ml mr := by
  intro k
  induction k with
  | zero =>
    intro p m v7 h hI hQ
    have hP3 := hW.1.1
    have hl9 := hL.lt
    have hΛm := hΛ.congr (mi' := m) (fun j hj => hI.1 _ (by omega))
    refine e_iload 16 dX2_pass_14 rfl rfl ?_
    refine e_aload_n 17 dX2_pass_16 rfl rfl ?_
    refine e_geti 20 dX2_pass_17 lf_X2_54 rfl rfl hD.k0 hD.l0 (hΛm.f0) ?_
    refine e_icmp_geN 110 23 dX2_pass_20 (by decide) rfl (by omega) (by omega) (fun h20 => ?_) (fun h20 => ?_)
    · obtain rfl : p = Λ 0 0 := by omega
      exact hQ m v7 hI.1 hI.2.1
    · exact absurd h20 (by omega)
  | succ k ih =>
    intro p m v7 h hI hQ
    have hP3 := hW.1.1
    have hl9 := hL.lt
    have hΛm := hΛ.congr (mi' := m) (fun j hj => hI.1 _ (by omega))
    refine e_iload 16 dX2_pass_14 rfl rfl ?_
    refine e_aload_n 17 dX2_pass_16 rfl rfl ?_
    refine e_geti 20 dX2_pass_17 lf_X2_54 rfl rfl hD.k0 hD.l0 (hΛm.f0) ?_
    refine e_icmp_geN 110 23 dX2_pass_20 (by decide) rfl (by omega) (by omega) (fun h20 => ?_) (fun h20 => ?_)
    · exact absurd h20 (by omega)
    · refine e_aload_n 24 dX2_pass_23 rfl rfl ?_
      refine e_getr 27 dX2_pass_24 lf_X2_67 rfl rfl hD.k0 hD.l0 hD.r5 ?_
      refine e_iload_n 28 dX2_pass_27 rfl rfl ?_
      refine e_zald 29 dX2_pass_28 rfl hD.k5 (hD.l (j := 5) (by decide)) rfl (by rw [hD.n5]; have := hW.1.2.1; omega) (hΛm.2.2 w hw).2.2.2 ?_
      have hrow : zRow m (L + 2 + p) (x.1 p) := hI.2.2 p (Nat.le_refl p) h20
      have hh := zHear_le (nr := Λ 1) (yv := fun q => x.2.1 q y) (p := p) (N := Λ 0 0)
      have hmu := Nat.mul_le_mul hW.1.2.2.1 hh
      have hmu3 : learn * (if 2 ≤ y then x.2.1 p (y - 2) else 0) ≤ 9000 := by
        have h3 : (if 2 ≤ y then x.2.1 p (y - 2) else 0) ≤ 1000 := by
          split
          · exact hX.2.1 p h20 _ (by omega)
          · omega
        have := Nat.mul_le_mul hln h3
        omega
      have K9 : ∀ par : Nat, par = (if Λ 5 w = 0 then zPar (x.1 p) else 0) → par ≤ 1000 → zE G (zRm 3 238 238) (zQm G 238 238 Q) yX2_pass.cls yX2_pass.name cX2_pass 8 none 238 43 [.ref L, .ref D, .ref B, .int (nI w), .int (nI learn), .int (nI y), .int (nI p), v7] [.int (nI par)] 238 m ml mr := by
        intro par hpar0 hpar
        refine e_istore 45 dX2_pass_43 rfl (by decide) (zst1_7 rfl) ?_
        refine e_aload_n 46 dX2_pass_45 rfl rfl ?_
        refine e_iload 48 dX2_pass_46 rfl rfl ?_
        refine c_Vv 51 (ci := 2) dX2_pass_48 (k_X2_growOlder G hL (by omega) hrow) lm_X2_75 zi_yX2_growOlder zs_yX2_growOlder rfl hL.k0 hL.l0 rfl rfl rfl (Nat.le_of_ble_eq_true rfl) (Nat.le_of_ble_eq_true rfl) (Nat.le_of_ble_eq_true rfl) (Nat.le_refl _) (Nat.le_refl _) ?_
        rintro m1 _ _ ⟨a1, r1, rfl, rfl⟩
        have hl1 := zGrow_le (hX.1 p h20)
        have hΛm := hΛm.congr (mi' := m1) (fun j hj => a1 _ (by omega))
        refine e_aload_n 52 dX2_pass_51 rfl rfl ?_
        refine e_iload 54 dX2_pass_52 rfl rfl ?_
        refine e_aload_n 55 dX2_pass_54 rfl rfl ?_
        refine e_geti 58 dX2_pass_55 lf_X2_79 rfl rfl hD.k0 hD.l0 (hΛm.f2) ?_
        refine e_aload_n 59 dX2_pass_58 rfl rfl ?_
        refine e_aload_n 60 dX2_pass_59 rfl rfl ?_
        refine e_iload 62 dX2_pass_60 rfl rfl ?_
        refine e_iload 64 dX2_pass_62 rfl rfl ?_
        refine c_Vqi 67 (ci := 2) dX2_pass_64 (k_X2_heard G hL hD hΛm hW h20 (by omega) (fun q hq => by rw [a1 _ (by omega), hI.1 _ (by omega)]; exact hR.2.1 q hq y (Nat.le_refl y)) (fun q hq => hX.2.1 q hq y (Nat.le_refl y))) lm_X2_82 zi_yX2_heard zs_yX2_heard rfl hL.k0 hL.l0 rfl rfl rfl (Nat.le_of_ble_eq_true rfl) (Nat.le_of_ble_eq_true rfl) (Nat.le_of_ble_eq_true rfl) (Nat.le_refl _) (Nat.le_refl _) ?_
        first | refine e_imulN 68 dX2_pass_67 rfl ?_ | refine e_imul 68 dX2_pass_67 rfl ?_
        refine e_i2l 69 dX2_pass_68 rfl ?_
        rw [nI_l (by omega)]
        refine e_iload 71 dX2_pass_69 rfl rfl ?_
        refine c_Vv 74 (ci := 2) dX2_pass_71 (k_X2_takeUp G hL (by omega) (by omega) hpar hl1 r1) lm_X2_86 zi_yX2_takeUp zs_yX2_takeUp rfl hL.k0 hL.l0 rfl rfl rfl (Nat.le_of_ble_eq_true rfl) (Nat.le_of_ble_eq_true rfl) (Nat.le_of_ble_eq_true rfl) (Nat.le_refl _) (Nat.le_refl _) ?_
        rintro m2 _ _ ⟨a2, r2, rfl, rfl⟩
        have hl2 := zTake_le (s := Λ 0 2 * zHear (Λ 1) (fun q => x.2.1 q y) p (Λ 0 0)) (by omega) hpar hl1
        have hΛm := hΛm.congr (mi' := m2) (fun j hj => a2 _ (by omega))
        refine e_aload_n 75 dX2_pass_74 rfl rfl ?_
        refine e_iload 77 dX2_pass_75 rfl rfl ?_
        refine e_aload_n 78 dX2_pass_77 rfl rfl ?_
        refine e_geti 81 dX2_pass_78 lf_X2_90 rfl rfl hD.k0 hD.l0 (hΛm.f4) ?_
        refine e_iload 83 dX2_pass_81 rfl rfl ?_
        first | refine e_imulN 84 dX2_pass_83 rfl ?_ | refine e_imul 84 dX2_pass_83 rfl ?_
        refine c_Vv 87 (ci := 2) dX2_pass_84 (k_X2_dropIt G hL (by omega) (by have := Nat.mul_le_mul hW.1.2.2.2.2.1 hpar; omega) hl2 r2) lm_X2_93 zi_yX2_dropIt zs_yX2_dropIt rfl hL.k0 hL.l0 rfl rfl rfl (Nat.le_of_ble_eq_true rfl) (Nat.le_of_ble_eq_true rfl) (Nat.le_of_ble_eq_true rfl) (Nat.le_refl _) (Nat.le_refl _) ?_
        rintro m3 _ _ ⟨a3, r3, rfl, rfl⟩
        have hl3 := zDrop_le (s := Λ 0 4 * par) hl2
        refine e_aload_n 88 dX2_pass_87 rfl rfl ?_
        refine e_iload 90 dX2_pass_88 rfl rfl ?_
        refine e_iload 92 dX2_pass_90 rfl rfl ?_
        refine e_aload_n 93 dX2_pass_92 rfl rfl ?_
        refine e_iload 95 dX2_pass_93 rfl rfl ?_
        refine e_iload 97 dX2_pass_95 rfl rfl ?_
        refine c_Vqi 100 (ci := 2) dX2_pass_97 (k_X2_youngTwoAhead G hL (by omega) (by omega) (fun t ht => by rw [a3 _ (by omega), a2 _ (by omega), a1 _ (by omega), hI.1 _ (by omega)]; exact hR.2.1 p h20 t ht)) lm_X2_96 zi_yX2_youngTwoAhead zs_yX2_youngTwoAhead rfl hL.k0 hL.l0 rfl rfl rfl (Nat.le_of_ble_eq_true rfl) (Nat.le_of_ble_eq_true rfl) (Nat.le_of_ble_eq_true rfl) (Nat.le_refl _) (Nat.le_refl _) ?_
        first | refine e_imulN 101 dX2_pass_100 rfl ?_ | refine e_imul 101 dX2_pass_100 rfl ?_
        refine c_Vv 104 (ci := 2) dX2_pass_101 (k_X2_learnIt G hL (by omega) (by omega) hl3 r3) lm_X2_99 zi_yX2_learnIt zs_yX2_learnIt rfl hL.k0 hL.l0 rfl rfl rfl (Nat.le_of_ble_eq_true rfl) (Nat.le_of_ble_eq_true rfl) (Nat.le_of_ble_eq_true rfl) (Nat.le_refl _) (Nat.le_refl _) ?_
        rintro m4 _ _ ⟨a4, r4, rfl, rfl⟩
        refine e_iinc 107 dX2_pass_104 rfl (by decide) rfl (z_inc hii_1) (zst1_6 rfl) ?_
        refine e_goto 14 dX2_pass_107 (by decide) ?_
        refine ih (p + 1) m4 _ (by omega) ⟨fun q hq => by rw [a4 _ (by omega), a3 _ (by omega), a2 _ (by omega), a1 _ (by omega)]; exact hI.1 q hq, fun j hj => ?_, fun j h1 h2 => ?_⟩ hQ
        · by_cases e : j = p
          · subst e
            have e9 : zPassSh Λ learn w y x.2.1 x.1 j = zPassRow Λ learn w y x.2.1 j (x.1 j) := if_pos hc8
            rw [e9]
            unfold zPassRow
            rw [← hpar0]
            exact r4
          · intro a g1 g2
            rw [a4 _ (by omega), a3 _ (by omega), a2 _ (by omega), a1 _ (by omega)]
            exact hI.2.1 j (by omega) a g1 g2
        · intro a g1 g2
          rw [a4 _ (by omega), a3 _ (by omega), a2 _ (by omega), a1 _ (by omega)]
          exact hI.2.2 j (by omega) h2 a g1 g2
      refine e_if_eqN 36 32 dX2_pass_29 (by decide) rfl (by have := hW.2.2 w hw; omega) (fun h29 => ?_) (fun h29 => ?_)
      · refine e_aload_n 37 dX2_pass_36 rfl rfl ?_
        refine e_iload 39 dX2_pass_37 rfl rfl ?_
        refine e_iconst 40 hic_1 dX2_pass_39 rfl ?_
        refine c_Vqi 43 (ci := 2) dX2_pass_40 (k_X2_measure_1 G hL (by omega) hrow (hX.1 p h20)) lm_X2_71 zi_yX2_measure zs_yX2_measure rfl hL.k0 hL.l0 rfl rfl rfl (Nat.le_of_ble_eq_true rfl) (Nat.le_of_ble_eq_true rfl) (Nat.le_of_ble_eq_true rfl) (Nat.le_refl _) (Nat.le_refl _) ?_
        first
          | exact K9 _ (by rw [if_neg (by omega)]) (by decide)
          | exact K9 _ (by rw [if_pos h29]; rfl) (zPar_le (hX.1 p h20))
      · refine e_iconst 33 hic_0 dX2_pass_32 rfl ?_
        refine e_goto 43 dX2_pass_33 (by decide) ?_
        first
          | exact K9 _ (by rw [if_neg (by omega)]) (by decide)
          | exact K9 _ (by rw [if_pos h29]; rfl) (zPar_le (hX.1 p h20))
set_option maxHeartbeats 4000000 in
set_option maxRecDepth 100000 in
theorem t_X2_pass (G : zG) {L D B w learn y : Nat} {Λ S : zLd} {x : zSt} {mi : zFi} {ml : zFl} {mr : zFr} (hL : zLife mr L) (hD : zLandL mr D) (hB : zSongL mr B) (hW : zLandW Λ) (hS : zSongW (Λ 0 0) (Λ 0 1) S) (hw : w < Λ 0 1) (hln : learn ≤ 9) (hy : y < 99) (hDL : D + 6 ≤ L ∨ L + 11 ≤ D) (hBL : B + 5 ≤ L ∨ L + 11 ≤ B) (hΛ : zLandR mi D Λ) (hSg : zSongR mi B S) (hR : zLifeR mi L (Λ 0 0) y x) (hX : zStW (Λ 0 0) y x) {m : zFi} (v6 v7 : Value) (hon : zOnlyS L mi m) (hR1 : zRows L (Λ 0 0) (zPassSh Λ learn w y x.2.1 x.1) m) : zE G (zRm 3 238 238) (zQm G 238 238 (zPv fun a b c => (∀ q, q < L + 2 ∨ L + 11 ≤ q → a q = mi q) ∧ zLifeR a L (Λ 0 0) (y + 1) (zPass Λ S learn w y x) ∧ b = ml ∧ c = mr)) yX2_pass.cls yX2_pass.name cX2_pass 8 none 238 110 [.ref L, .ref D, .ref B, .int (nI w), .int (nI learn), .int (nI y), v6, v7] [] 238 m ml mr := by
  have hP3 := hW.1.1
  have hl9 := hL.lt
  have hΛm := hΛ.congr (mi' := m) (fun j hj => hon _ (by omega))
  have hSm := hSg.congr (mi' := m) (fun j hj => hon _ (by omega))
  have hl1 := zPassSh_le (w := w) (sh := x.1) hW hln hX.2.1 hX.1
  refine e_aload_n 111 dX2_pass_110 rfl rfl ?_
  refine e_aload_n 112 dX2_pass_111 rfl rfl ?_
  refine e_aload_n 113 dX2_pass_112 rfl rfl ?_
  refine e_iload_n 114 dX2_pass_113 rfl rfl ?_
  refine e_iload 116 dX2_pass_114 rfl rfl ?_
  refine e_iconst 117 hic_1 dX2_pass_116 rfl ?_
  first | refine e_iaddN 118 dX2_pass_117 rfl ?_ | refine e_iadd 118 dX2_pass_117 rfl ?_
  refine c_Vv 121 (ci := 2) dX2_pass_118 (k_X2_arrive G hL hD hB hW hS rfl hw (by omega) hDL hBL hΛm hSm hR1 hl1) lm_X2_50 zi_yX2_arrive zs_yX2_arrive rfl hL.k0 hL.l0 rfl rfl rfl (Nat.le_of_ble_eq_true rfl) (Nat.le_of_ble_eq_true rfl) (Nat.le_of_ble_eq_true rfl) (Nat.le_refl _) (Nat.le_refl _) ?_
  rintro m2 _ _ ⟨a2, r2, rfl, rfl⟩
  have hΛm := hΛm.congr (mi' := m2) (fun j hj => a2 _ (by omega))
  refine e_aload_n 122 dX2_pass_121 rfl rfl ?_
  refine e_aload_n 123 dX2_pass_122 rfl rfl ?_
  refine e_geti 126 dX2_pass_123 lf_X2_54 rfl rfl hD.k0 hD.l0 (hΛm.f0) ?_
  refine e_iload 128 dX2_pass_126 rfl rfl ?_
  refine e_iconst 129 hic_1 dX2_pass_128 rfl ?_
  first | refine e_iaddN 130 dX2_pass_129 rfl ?_ | refine e_iadd 130 dX2_pass_129 rfl ?_
  refine c_Vv 133 (ci := 2) dX2_pass_130 (k_X2_note G hL hP3 (by omega) r2 (zArr_le hW.1.2.2.2.2.2.2 (fun j hj => (hS.2 j hj).2.2.2.2) hl1)) lm_X2_60 zi_yX2_note zs_yX2_note rfl hL.k0 hL.l0 rfl rfl rfl (Nat.le_of_ble_eq_true rfl) (Nat.le_of_ble_eq_true rfl) (Nat.le_of_ble_eq_true rfl) (Nat.le_refl _) (Nat.le_refl _) ?_
  rintro m3 _ _ ⟨a3, rfl, rfl⟩
  refine e_vreturn dX2_pass_133 rfl ?_
  refine ⟨rfl, fun q hq => ?_, ?_, rfl, rfl⟩
  · rw [a3.1 _ (by omega), a2 _ (by omega), hon _ (by omega)]
  · exact zNoted_R r2 hP3 (fun t ht => by omega) (fun p hp t ht => by rw [a2 _ (by omega), hon _ (by omega)]; exact hR.2.1 p hp t (by omega)) (fun t ht => by rw [a2 _ (by omega), hon _ (by omega)]; exact hR.2.2.1 t (by omega)) (fun t ht => by rw [a2 _ (by omega), hon _ (by omega)]; exact hR.2.2.2 t (by omega)) a3
set_option maxHeartbeats 4000000 in
set_option maxRecDepth 100000 in
theorem k_X2_pass (G : zG) {L D B w learn y : Nat} {Λ S : zLd} {x : zSt} {mi : zFi} {ml : zFl} {mr : zFr} (hL : zLife mr L) (hD : zLandL mr D) (hB : zSongL mr B) (hW : zLandW Λ) (hS : zSongW (Λ 0 0) (Λ 0 1) S) (hw : w < Λ 0 1) (hln : learn ≤ 9) (hy : y < 99) (hDL : D + 6 ≤ L ∨ L + 11 ≤ D) (hBL : B + 5 ≤ L ∨ L + 11 ≤ B) (hΛ : zLandR mi D Λ) (hSg : zSongR mi B S) (hR : zLifeR mi L (Λ 0 0) y x) (hX : zStW (Λ 0 0) y x) : zMet G 3 yX2_pass cX2_pass 8 none [.ref L, .ref D, .ref B, .int (nI w), .int (nI learn), .int (nI y)] 238 mi ml mr 238 (zPv fun a b c => (∀ q, q < L + 2 ∨ L + 11 ≤ q → a q = mi q) ∧ zLifeR a L (Λ 0 0) (y + 1) (zPass Λ S learn w y x) ∧ b = ml ∧ c = mr) := by
  refine z_intro ([.ref L, .ref D, .ref B, .int (nI w), .int (nI learn), .int (nI y), zx, zx]) (by decide) rfl (Nat.le_of_ble_eq_true rfl) ?_
  refine e_aload_n 1 dX2_pass_0 rfl rfl ?_
  refine e_getr 4 dX2_pass_1 lf_X2_64 rfl rfl hD.k0 hD.l0 hD.r3 ?_
  refine e_iload_n 5 dX2_pass_4 rfl rfl ?_
  refine e_iald 6 dX2_pass_5 rfl hD.k3 (hD.l (j := 3) (by decide)) rfl (by rw [hD.n3]; have := hW.1.2.1; omega) (hΛ.2.2 w hw).2.1 ?_
  refine e_iload 8 dX2_pass_6 rfl rfl ?_
  refine e_icmp_gtN 110 11 dX2_pass_8 (by decide) rfl (by have := hW.2.2 w hw; omega) (by omega) (fun h8 => ?_) (fun h8 => ?_)
  · refine t_X2_pass G hL hD hB hW hS hw hln hy hDL hBL hΛ hSg hR hX _ _ (fun _ _ => rfl) (fun p hp => ?_)
    have e : zPassSh Λ learn w y x.2.1 x.1 p = x.1 p := if_neg (by omega)
    rw [e]
    exact hR.1 p hp
  · refine e_iconst 12 hic_0 dX2_pass_11 rfl ?_
    refine e_istore 14 dX2_pass_12 rfl (by decide) (zst1_6 rfl) ?_
    refine l_X2_pass G _ hL hD hB hW hS hw hln hy hDL hBL hΛ hSg hR hX h8 (Λ 0 0) 0 mi _ (by omega) ⟨fun _ _ => rfl, fun j hj => absurd hj (Nat.not_lt_zero _), fun j _ hj => hR.1 j hj⟩ (fun m v7 g1 g2 => t_X2_pass G hL hD hB hW hS hw hln hy hDL hBL hΛ hSg hR hX _ v7 g1 g2)

