theorem zTk_e {t : zTx} {b : Nat} (h : b ≤ t.1) : zTkA t b ≤ t.1 := (zTk_b h).2.1
theorem zFin_e {t : zTx} {b p : Nat} {s : zRd} (hb : b ≤ t.1) (h : zFin t b s = .error p) : p ≤ t.1 := by
  unfold zFin at h
  split at h
  · cases h
  · cases h; exact zTk_e hb
theorem zNeed_e {t : zTx} {lo hi b p : Nat} {k : Nat → Except Nat (zRd × Nat)} (hb : b ≤ t.1) (h : zNeed t lo hi b k = .error p) (hk : ∀ x, k x = .error p → p ≤ t.1) : p ≤ t.1 := by
  unfold zNeed at h
  split at h
  · exact hk _ h
  · cases h; exact zTk_e hb
theorem ite_e {c : Prop} {d : Decidable c} {r : Except Nat (zRd × Nat)} {a p n : Nat} (ha : a ≤ n) (h : (@ite _ c d r (.error a)) = .error p) (hk : r = .error p → p ≤ n) : p ≤ n := by
  by_cases q : c
  · rw [if_pos q] at h; exact hk h
  · rw [if_neg q] at h; cases h; exact ha
theorem ite_2 {c : Prop} {d : Decidable c} {r s : Except Nat (zRd × Nat)} {p n : Nat} (h : (@ite _ c d r s) = .error p) (hk : r = .error p → p ≤ n) (hk2 : s = .error p → p ≤ n) : p ≤ n := by
  by_cases q : c
  · rw [if_pos q] at h; exact hk h
  · rw [if_neg q] at h; exact hk2 h
theorem zPlB_le {t : zTx} {b : Nat} (h : b ≤ t.1) : zPlB t b ≤ t.1 := by
  unfold zPlB
  split
  · exact (zTk_b h).2.2.2.1
  · exact h
theorem zItem_e {t : zTx} {s : zRd} {b p : Nat} (hb : b ≤ t.1) (h : zItem t s b = .error p) : p ≤ t.1 := by
  have k0 := (zTk_b hb).2.2.2.1
  have k1 := (zTk_b k0).2.2.2.1
  have k2 := (zTk_b k1).2.2.2.1
  have k3 := (zTk_b k2).2.2.2.1
  unfold zItem at h
  refine ite_2 h (fun h => ite_e (zTk_e hb) h (fun h => zFin_e k0 h)) (fun h => ?_)
  refine ite_2 h (fun h => zNeed_e k0 h (fun x h => ite_e (zTk_e k1) h (fun h => zNeed_e k2 h (fun y h => zFin_e k3 h)))) (fun h => ?_)
  refine ite_2 h (fun h => ite_e (zTk_e hb) h (fun h => zNeed_e k0 h (fun x h => zNeed_e k1 h (fun y h => zNeed_e k2 h (fun z h => zFin_e k3 h))))) (fun h => ?_)
  refine ite_2 h (fun h => ite_e (zTk_e hb) h (fun h => zNeed_e k0 h (fun x h => zFin_e k1 h))) (fun h => ?_)
  exact ite_e (zTk_e hb) h (fun h => ite_e (zTk_e hb) h (fun h => zNeed_e k0 h (fun x h => zNeed_e k1 h (fun y h => zNeed_e k2 h (fun z h => zFin_e (zPlB_le k3) h)))))
theorem zLandF_e {t : zTx} : ∀ (k n : Nat) (s : zRd) (b p : Nat), zRdW s → b ≤ t.1 → zLandF t k n s b = .error p → p ≤ t.1
  | 0, _, _, _, _, _, _, h => by cases h
  | k + 1, n, s, b, p, hw, hb, h => by
    have e : zLandF t (k + 1) n s b = if zTkK t b = 0 then .ok (n, s) else match zItem t s b with
      | .error p => .error p
      | .ok y => zLandF t k (n + 1) y.1 y.2 := rfl
    rw [e] at h
    by_cases q : zTkK t b = 0
    · rw [if_pos q] at h; cases h
    · rw [if_neg q] at h
      cases hq : zItem t s b with
      | error p => rw [hq] at h; cases h; exact zItem_e hb hq
      | ok z =>
        rw [hq] at h
        have h1 := zItem_W hw hb hq
        exact zLandF_e k (n + 1) z.1 z.2 p h1.1 h1.2.2 h
theorem zNeg9 : ∀ p, p ≤ 300 → ¬ 0 ≤ (-10 : Int32) - nI p := by decide +kernel
theorem zLandOk.y {x : Int32} {u : zFi} {E : Nat} {t : zTx} (htw : zTxW t) (h : zLandOk x u E (zLandP t)) (hx : 0 ≤ x) : ∃ y, zLandP t = .ok y ∧ x = nI y.1 ∧ zLandR u E y.2.1 := by
  cases hq : zLandP t with
  | error p =>
    rw [hq] at h
    have h1 : p ≤ t.1 := zLandF_e 300 0 zRd0 0 p zRd0_W (Nat.zero_le _) hq
    have h2 : x = -10 - nI p := h
    rw [h2] at hx
    exact absurd hx (zNeg9 p (by have := htw.1; omega))
  | ok y => rw [hq] at h; exact ⟨y, rfl, h⟩
theorem zLandOk.n {x : Int32} {u : zFi} {E : Nat} {t : zTx} (h : zLandOk x u E (zLandP t)) (hx : ¬ 0 ≤ x) : ∃ p, zLandP t = .error p ∧ x = -10 - nI p := by
  cases hq : zLandP t with
  | error p => rw [hq] at h; exact ⟨p, rfl, h⟩
  | ok y =>
    rw [hq] at h
    have h1 := (zLandP_W hq).2
    have h2 : x = nI y.1 := h.1
    rw [h2] at hx
    exact absurd ((nI_leI (a := 0) (by decide) (by omega)).mpr (Nat.zero_le _)) hx
/-- land: the answer; what becomes of the land, the text, the moment, the images, the letter, the writings -/
def sLand (t : zTx) : Int32 := match zLandP t with
  | .ok y => nI y.1
  | .error p => -10 - nI p
def sLandD (t : zTx) (Λ : zLd) : zLd := match zLandP t with
  | .ok y => y.2.1
  | .error _ => Λ
def sLandT (t : zTx) : zTx := match zLandP t with
  | .ok _ => (0, t.2)
  | .error _ => t
def sLandM (t : zTx) (m : zMo) : zMo := match zLandP t with
  | .ok y => zAnew y.2.1 m
  | .error _ => m
def sLandI (t : zTx) (im : Nat → Nat × zMo) : Nat → Nat × zMo := match zLandP t with
  | .ok _ => fun i => (0, (im i).2)
  | .error _ => im
def sLandL (t : zTx) (l : zLt) : zLt := match zLandP t with
  | .ok _ => (0, l.2)
  | .error _ => l
def sLandW (t : zTx) (r : zWr) : zWr := match zLandP t with
  | .ok _ => (0, r.2)
  | .error _ => r
theorem sLand_F {Λ : zLd} {late : Nat} {t : zTx} {m : zMo} {im : Nat → Nat × zMo} {l : zLt} {r : zWr} (hF : zWf Λ late t m im l r) : zWf (sLandD t Λ) late (sLandT t) (sLandM t m) (sLandI t im) (sLandL t l) (sLandW t r) := by
  unfold sLandD sLandT sLandM sLandI sLandL sLandW
  cases hq : zLandP t with
  | error p => exact hF
  | ok y =>
    have h1 := (zLandP_W hq).1.1
    exact ⟨h1, hF.2.1, ⟨Nat.zero_le _, fun k hk => absurd hk (Nat.not_lt_zero _)⟩, zAnew_W h1, fun i _ => ⟨Nat.zero_le 1, fun z => absurd z (Nat.zero_ne_one)⟩, ⟨Nat.zero_le 1, fun z => absurd z (Nat.zero_ne_one)⟩, Nat.zero_le _, fun k hk => absurd hk (Nat.not_lt_zero _)⟩
section ZSWAP
variable {mr mr' : zFr}
theorem zSongL.c {B : Nat} (h : zSongL mr B) (e : mr' B = mr B) : zSongL mr' B := ⟨h.1, by rw [e]; exact h.2⟩
theorem zLandL.c {B : Nat} (h : zLandL mr B) (e : mr' B = mr B) : zLandL mr' B := ⟨h.1, by rw [e]; exact h.2⟩
theorem zLife.c {L : Nat} (h : zLife mr L) (e : ∀ q, L ≤ q → mr' q = mr q) : zLife mr' L := by
  obtain ⟨a, b, c, d, f, g⟩ := h
  refine ⟨a, b, c, d, by rw [e L (Nat.le_refl _)]; exact f, fun p hp => ?_⟩
  rw [e (L + 1) (by omega), e (L + 5) (by omega)]
  exact g p hp
theorem zMomL.c {B : Nat} (h : zMomL mr B) (e : ∀ q, B ≤ q → mr' q = mr q) : zMomL mr' B :=
  ⟨h.1, by rw [e B (Nat.le_refl _)]; exact h.2.1, fun w hw => by rw [e (B + 6) (by omega)]; exact h.2.2.1 w hw, h.2.2.2.1.c (e _ (by omega)), fun w hw => (h.2.2.2.2 w hw).c (fun q hq => e q (by omega))⟩
theorem zRf.swap {D E : Nat} (h : zRf mr D E) : zRf (zp (zp mr 0 8 (some E)) 0 9 (some D)) E D := by
  have e : ∀ q, q ≠ 0 → zp (zp mr 0 8 (some E)) 0 9 (some D) q = mr q := fun q hq => by rw [zp_r _ _ _ hq, zp_r _ _ _ hq]
  have e0 : ∀ k, k ≠ 8 → k ≠ 9 → zp (zp mr 0 8 (some E)) 0 9 (some D) 0 k = mr 0 k := fun k h1 h2 => by rw [zp_k _ _ h2, zp_k _ _ h1]
  obtain ⟨h1, ⟨a0, a1, a2, a3, a4, a5, a6, a7, a8, a9⟩, h3, ⟨b1, b2, b3, b4, b5, b6, b7⟩, h5⟩ := h
  refine ⟨?_, ⟨?_, ?_, ?_, ?_, ?_, ?_, ?_, ?_, ?_, ?_⟩, ?_, ⟨b1.c (fun q hq => e q (by omega)), b2.c (fun q hq => e q (by omega)), b3.c (fun q hq => e q (by omega)), b4.c (e _ (by decide)), b5.c (fun q hq => e q (by omega)), b6.c (e _ (by decide)), b7.c (e _ (by decide))⟩, ?_⟩
  · rcases h1 with q | q
    · exact Or.inr ⟨q.2, q.1⟩
    · exact Or.inl ⟨q.2, q.1⟩
  · rw [e0 _ (by decide) (by decide)]; exact a0
  · rw [e0 _ (by decide) (by decide)]; exact a1
  · rw [e0 _ (by decide) (by decide)]; exact a2
  · rw [e0 _ (by decide) (by decide)]; exact a3
  · rw [e0 _ (by decide) (by decide)]; exact a4
  · rw [e0 _ (by decide) (by decide)]; exact a5
  · rw [e0 _ (by decide) (by decide)]; exact a6
  · rw [e0 _ (by decide) (by decide)]; exact a7
  · rw [zp_k _ _ (by decide), zp_s]
  · rw [zp_s]
  · rw [e 1 (by decide), e 65 (by decide), e 67 (by decide), e 69 (by decide)]; exact h3
  · rw [e 224 (by decide)]; exact h5
end ZSWAP
set_option maxHeartbeats 4000000 in
set_option maxRecDepth 100000 in
theorem k_X7_land (G : zG) {D E : Nat} {Λ : zLd} {late : Nat} {tr : Int64} {t : zTx} {m : zMo} {im : Nat → Nat × zMo} {l : zLt} {r : zWr} {mi : zFi} {ml : zFl} {mr : zFr} (hr : zRf mr D E) (hX : zX mi ml D Λ late tr t m im l r) (hF : zWf Λ late t m im l r) : zMet G 8 yX7_land cX7_land 4 (some .int) [.ref 0] 238 mi ml mr 238 (zPi fun x a b c => x = sLand t ∧ (∃ D' E', zRf c D' E' ∧ zX a b D' (sLandD t Λ) late tr (sLandT t) (sLandM t m) (sLandI t im) (sLandL t l) (sLandW t r)) ∧ (∀ q, 224 ≤ q → a q = mi q) ∧ b = ml) := by
  obtain ⟨hΛ, hlate, htr, ht, hm, him, hl, hw, hn72⟩ := id hX
  obtain ⟨hW, hla30, htw, hmw, himw, hlw, hrw⟩ := id hF
  have hP3 := hW.1.1
  have hW5 := hW.1.2.1
  have hy99 := hmw.1
  have hD9 := hr.Dl
  refine z_intro ([.ref 0, zx, zx, zx]) (by decide) rfl (Nat.le_of_ble_eq_true rfl) ?_
  refine e_aload_n 1 dX7_land_0 rfl rfl ?_
  refine e_getr 4 dX7_land_1 lf_X7_10 rfl rfl rfl (by decide) hr.reader ?_
  refine e_aload_n 5 dX7_land_4 rfl rfl ?_
  refine e_getr 8 dX7_land_5 lf_X7_66 rfl rfl rfl (by decide) hr.spare ?_
  refine c_Vi 11 (ci := 4) dX7_land_8 (k_X4_readInto G hr htw ht) lm_X7_91 zi_yX4_readInto zs_yX4_readInto rfl rfl (by decide) rfl rfl rfl (Nat.le_of_ble_eq_true rfl) (Nat.le_of_ble_eq_true rfl) (Nat.le_of_ble_eq_true rfl) (by exact Nat.le_refl _) (by exact Nat.le_refl _) ?_
  rintro x1 u1 _ _ ⟨ok1, g1, rfl, rfl⟩
  refine e_istore_n 12 dX7_land_11 rfl (by decide) (zst1_1 rfl) ?_
  refine e_iload_n 13 dX7_land_12 rfl rfl ?_
  refine e_if_ge 18 16 dX7_land_13 (by decide) rfl (fun h13 => ?_) (fun h13 => ?_)
  · obtain ⟨y, ey, rfl, l1⟩ := ok1.y htw h13
    have eA : sLand t = nI y.1 := by unfold sLand; rw [ey]
    have eD : sLandD t Λ = y.2.1 := by unfold sLandD; rw [ey]
    have eT : sLandT t = (0, t.2) := by unfold sLandT; rw [ey]
    have eM : sLandM t m = zAnew y.2.1 m := by unfold sLandM; rw [ey]
    have eI : sLandI t im = fun i => (0, (im i).2) := by unfold sLandI; rw [ey]
    have eL : sLandL t l = (0, l.2) := by unfold sLandL; rw [ey]
    have eW : sLandW t r = (0, r.2) := by unfold sLandW; rw [ey]
    rw [eA, eD, eT, eM, eI, eL, eW]
    clear eA eD eT eM eI eL eW
    refine e_aload_n 19 dX7_land_18 rfl rfl ?_
    refine e_getr 22 dX7_land_19 lf_X7_62 rfl rfl rfl (by decide) hr.land ?_
    refine e_astore_n 23 dX7_land_22 rfl (by decide) (zst1_2 rfl) ?_
    refine e_aload_n 24 dX7_land_23 rfl rfl ?_
    refine e_aload_n 25 dX7_land_24 rfl rfl ?_
    refine e_getr 28 dX7_land_25 lf_X7_66 rfl rfl rfl (by decide) hr.spare ?_
    refine e_putr 31 dX7_land_28 lf_X7_62 rfl (fun _ => rfl) (fun _ => rfl) rfl rfl (by decide) ?_
    refine e_aload_n 32 dX7_land_31 rfl rfl ?_
    refine e_aload_n 33 dX7_land_32 rfl rfl ?_
    refine e_putr 36 dX7_land_33 lf_X7_66 rfl (fun _ => rfl) (fun _ => rfl) rfl rfl (by decide) ?_
    have hr := hr.swap
    have hEl := hr.Dl
    have hW1 := (zLandP_W ey).1.1
    generalize zp (zp _ 0 8 (some E)) 0 9 (some D) = mr2 at hr ⊢
    refine e_aload_n 37 dX7_land_36 rfl rfl ?_
    refine e_getr 40 dX7_land_37 lf_X7_10 rfl rfl rfl (by decide) hr.reader ?_
    refine e_iconst 41 hic_0 dX7_land_40 rfl ?_
    refine e_puti 44 dX7_land_41 lf_X7_88 rfl rfl rfl rfl rfl (by decide) ?_
    refine e_aload_n 45 dX7_land_44 rfl rfl ?_
    refine e_getr 48 dX7_land_45 lf_X7_41 rfl rfl rfl (by decide) hr.writings ?_
    refine e_iconst 49 hic_0 dX7_land_48 rfl ?_
    refine e_puti 52 dX7_land_49 lf_X7_95 rfl rfl rfl rfl rfl (by decide) ?_
    refine e_aload_n 53 dX7_land_52 rfl rfl ?_
    refine e_getr 56 dX7_land_53 lf_X7_34 rfl rfl rfl (by decide) hr.letter ?_
    refine e_iconst 57 hic_0 dX7_land_56 rfl ?_
    refine e_puti 60 dX7_land_57 lf_X7_98 rfl rfl rfl rfl rfl (by decide) ?_
    refine e_iconst 61 hic_0 dX7_land_60 rfl ?_
    refine e_istore_n 62 dX7_land_61 rfl (by decide) (zst1_3 rfl) ?_
    refine e_iload_n 63 dX7_land_62 rfl rfl ?_
    refine e_iconst 64 hic_2 dX7_land_63 rfl ?_
    refine e_icmp_geN 80 67 dX7_land_64 (by decide) rfl (by decide) (by decide) (fun h64 => ?_) (fun h64 => ?_)
    · exact absurd h64 (by decide)
    · refine e_aload_n 68 dX7_land_67 rfl rfl ?_
      refine e_getr 71 dX7_land_68 lf_X7_27 rfl rfl rfl (by decide) hr.kept ?_
      refine e_iload_n 72 dX7_land_71 rfl rfl ?_
      refine e_iconst 73 hic_0 dX7_land_72 rfl ?_
      refine e_zast 74 dX7_land_73 rfl rfl (by decide) rfl ((by decide)) (zNarZ 0 (by decide)) ?_
      refine e_iinc 77 dX7_land_74 rfl (by decide) rfl (z_inc hii_1) (zst1_3 rfl) ?_
      refine e_goto 62 dX7_land_77 (by decide) ?_
      refine e_iload_n 63 dX7_land_62 rfl rfl ?_
      refine e_iconst 64 hic_2 dX7_land_63 rfl ?_
      refine e_icmp_geN 80 67 dX7_land_64 (by decide) rfl (by decide) (by decide) (fun h64 => ?_) (fun h64 => ?_)
      · exact absurd h64 (by decide)
      · refine e_aload_n 68 dX7_land_67 rfl rfl ?_
        refine e_getr 71 dX7_land_68 lf_X7_27 rfl rfl rfl (by decide) hr.kept ?_
        refine e_iload_n 72 dX7_land_71 rfl rfl ?_
        refine e_iconst 73 hic_0 dX7_land_72 rfl ?_
        refine e_zast 74 dX7_land_73 rfl rfl (by decide) rfl ((by decide)) (zNarZ 0 (by decide)) ?_
        refine e_iinc 77 dX7_land_74 rfl (by decide) rfl (z_inc hii_1) (zst1_3 rfl) ?_
        refine e_goto 62 dX7_land_77 (by decide) ?_
        refine e_iload_n 63 dX7_land_62 rfl rfl ?_
        refine e_iconst 64 hic_2 dX7_land_63 rfl ?_
        refine e_icmp_geN 80 67 dX7_land_64 (by decide) rfl (by decide) (by decide) (fun h64 => ?_) (fun h64 => ?_)
        · have e2 : ∀ q, q ≠ 1 → q ≠ 66 → q ≠ 67 → q ≠ 69 → (zp (zp (zp (zp (zp u1 1 1 (nI 0)) 69 0 (nI 0)) 67 0 (nI 0)) 66 0 (nI 0)) 66 (0 + 1) (nI 0)) q = u1 q := fun q a b c d => by rw [zp_r _ _ _ b, zp_r _ _ _ b, zp_r _ _ _ c, zp_r _ _ _ d, zp_r _ _ _ a]
          refine e_aload_n 81 dX7_land_80 rfl rfl ?_
          refine e_getr 84 dX7_land_81 lf_X7_19 rfl rfl rfl (by decide) hr.now ?_
          refine e_aload_n 85 dX7_land_84 rfl rfl ?_
          refine e_getr 88 dX7_land_85 lf_X7_62 rfl rfl rfl (by decide) hr.land ?_
          refine c_Vv 91 (ci := 3) dX7_land_88 (k_X3_begin G hr.m3 hr.dD hW1 (l1.congr (fun j hj => e2 _ (by omega) (by omega) (by omega) (by omega)))) lm_X7_102 zi_yX3_begin zs_yX3_begin rfl rfl (by decide) rfl rfl rfl (Nat.le_of_ble_eq_true rfl) (Nat.le_of_ble_eq_true rfl) (Nat.le_of_ble_eq_true rfl) (by exact Nat.le_refl _) (by exact Nat.le_refl _) ?_
          rintro a _ _ ⟨a1, r1, rfl, rfl⟩
          refine e_iload_n 92 dX7_land_91 rfl rfl ?_
          refine e_ireturn .int dX7_land_92 rfl rfl ?_
          have e1 : ∀ q, (q < 3 ∨ 65 ≤ q) → q ≠ 1 → q ≠ 66 → q ≠ 67 → q ≠ 69 → (q < E ∨ E + 6 ≤ q) → a q = mi q := fun q h1 h2 h3 h4 h5 h6 => by rw [a1 q (by omega), e2 q h2 h3 h4 h5, g1.1 q h2 h6]
          refine ⟨_, rfl, rfl, ⟨E, D, hr, ⟨l1.congr (fun j hj => by rw [a1 _ (by omega), e2 _ (by omega) (by omega) (by omega) (by omega)]), by rw [e1 0 (by omega) (by decide) (by decide) (by decide) (by decide) (by omega)]; exact hlate, htr, ⟨?_, fun k hk => absurd hk (Nat.not_lt_zero _)⟩, ?_, ⟨⟨?_, ?_⟩, fun z => absurd z Nat.zero_ne_one, fun z => absurd z Nat.zero_ne_one⟩, ⟨?_, fun z => absurd z Nat.zero_ne_one⟩, ⟨?_, fun k hk => absurd hk (Nat.not_lt_zero _)⟩, by rw [e1 72 (by omega) (by decide) (by decide) (by decide) (by decide) (by omega)]; exact hn72⟩⟩, fun q hq => e1 q (by omega) (by omega) (by omega) (by omega) (by omega) (by omega), rfl⟩
          · rw [a1 1 (by decide), zp_r _ _ _ (by decide), zp_r _ _ _ (by decide), zp_r _ _ _ (by decide), zp_r _ _ _ (by decide), zp_s]
          · have h3 : (zp (zp (zp (zp (zp u1 1 1 (nI 0)) 69 0 (nI 0)) 67 0 (nI 0)) 66 0 (nI 0)) 66 (0 + 1) (nI 0)) 3 1 = m.2.1 := by rw [e2 3 (by decide) (by decide) (by decide) (by decide), g1.1 3 (by decide) (by omega)]; exact hm.2.1
            rw [h3] at r1
            exact r1
          · rw [a1 66 (by decide), zp_k _ _ (by decide), zp_s]
          · rw [a1 66 (by decide), zp_s]
          · rw [a1 67 (by decide), zp_r _ _ _ (by decide), zp_r _ _ _ (by decide), zp_s]
          · rw [a1 69 (by decide), zp_r _ _ _ (by decide), zp_r _ _ _ (by decide), zp_r _ _ _ (by decide), zp_s]
        · exact absurd h64 (by decide)
  · obtain ⟨p, ep, rfl⟩ := ok1.n h13
    have eA : sLand t = -10 - nI p := by unfold sLand; rw [ep]
    have eD : sLandD t Λ = Λ := by unfold sLandD; rw [ep]
    have eT : sLandT t = t := by unfold sLandT; rw [ep]
    have eM : sLandM t m = m := by unfold sLandM; rw [ep]
    have eI : sLandI t im = im := by unfold sLandI; rw [ep]
    have eL : sLandL t l = l := by unfold sLandL; rw [ep]
    have eW : sLandW t r = r := by unfold sLandW; rw [ep]
    rw [eA, eD, eT, eM, eI, eL, eW]
    refine e_iload_n 17 dX7_land_16 rfl rfl ?_
    refine e_ireturn .int dX7_land_17 rfl rfl ?_
    have hDE := hr.DE
    have hEl := hr.El
    refine ⟨_, rfl, rfl, ⟨D, E, hr, ⟨hΛ.congr (fun j hj => g1.1 _ (by omega) (by omega)), by rw [g1.1 0 (by decide) (by omega)]; exact hlate, htr, ⟨g1.2.trans ht.1, fun k hk => by rw [g1.1 2 (by decide) (by omega)]; exact ht.2 k hk⟩, hm.c hW (fun q a1 a2 => g1.1 q (by omega) (by omega)), him.c hW (g1.1 66 (by decide) (by omega)) (fun q a1 a2 => g1.1 q (by omega) (by omega)), hl.c (g1.1 67 (by decide) (by omega)), hw.c (g1.1 69 (by decide) (by omega)) (g1.1 70 (by decide) (by omega)) (g1.1 71 (by decide) (by omega)), by rw [g1.1 72 (by decide) (by omega)]; exact hn72⟩⟩, fun q hq => g1.1 q (by omega) (by omega), rfl⟩

