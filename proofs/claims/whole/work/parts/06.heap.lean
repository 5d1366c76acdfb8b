/-! THE ROWS THAT TOUCH CELLS -/
theorem zLifeN_le (r : Nat) : zLifeN r ≤ 5900 := by
  unfold zLifeN
  repeat' split
  all_goals omega
theorem zMomN_le (r : Nat) : zMomN r ≤ 5900 := by
  unfold zMomN
  repeat' split
  all_goals first | omega | exact zLifeN_le _
theorem zLandN_le (r : Nat) : zLandN r ≤ 5900 := by
  unfold zLandN
  repeat' split
  all_goals omega
theorem zMdN_le (r : Nat) : zMdN r ≤ 5900 := by
  unfold zMdN
  repeat' split
  all_goals omega
set_option maxRecDepth 20000 in
theorem zLN_le (r : Nat) : zLN r ≤ 5900 := by
  unfold zLN
  repeat' split
  all_goals first | omega | exact zLifeN_le _ | exact zMomN_le _ | exact zLandN_le _ | exact zMdN_le _
/-- a class of ours: its place among vwCl, its fields -/
def zCls (ci : Nat) (C : String) (T : u_T) (N : Nat) : Prop := vwCl[ci]? = some (C, T, N) ∧ N = zNf ci ∧ (∀ w ∈ u_ws C T N, w ∈ zT) ∧ (∀ k, k < N → parseFieldDescriptor (T k).2.2.1 = some (zTy ci k)) ∧ (∀ a, a < N → ∀ b, b < N → a ≠ b → (T a).2.1 ≠ (T b).2.1) ∧ (∀ k, k < N → (T k).1 = C) ∧ ∀ k, k < N → defaultValue (zTy ci k) = zFv (fun a => a) (zTyc (zTy ci k)) 0 0 none
/-- entry idx of own's pool names field k of class ci -/
def zFL (own : String) (idx ci k : Nat) (fin : Bool) : Prop := ∃ (C : String) (T : u_T) (N : Nat), zCls ci C T N ∧ k < N ∧ (Cond.fieldLink own idx C (T k).2.1 (T k).2.2.1 ∈ zT ∨ ∃ h : String, Cond.fieldLinkNest own idx C (T k).2.1 (T k).2.2.1 h ∈ zTN) ∧ (T k).2.2.2 = fin
/-- the same, a final field of own itself, by its own constructor -/
def zFLd (own : String) (idx ci k : Nat) : Prop := ∃ (T : u_T) (N : Nat), zCls ci own T N ∧ k < N ∧ Cond.fieldLink own idx own (T k).2.1 (T k).2.2.1 ∈ zT ∧ (T k).2.2.2 = true
theorem zCls.lt {ci : Nat} {C : String} {T : u_T} {N : Nat} (h : zCls ci C T N) : ci < 16 := by
  have := (List.getElem?_eq_some_iff.mp h.1).1
  have e : vwCl.length = 9 := rfl
  omega
theorem zEnt_obj {G : zG} {r ci : Nat} {fi : Nat → Int32} {fl : Nat → Int64} {fr : Nat → Option Nat} (h : zKD r = ci) (hc : ci < 16) : zEnt G r fi fl fr = .inr (ci, zFs (zad G) ci fi fl fr) := by
  subst h
  unfold zEnt
  rw [if_pos hc]
theorem zEnt_int {G : zG} {r kd : Nat} {fi : Nat → Int32} {fl : Nat → Int64} {fr : Nat → Option Nat} (h : zKD r = kd) (h1 : 16 ≤ kd) (h2 : kd < 19) : zEnt G r fi fl fr = .inl (G.2.2.1 (kd - 16), zLN r, .inl fi) := by
  subst h
  unfold zEnt
  rw [if_neg (by omega), if_pos h2]
theorem zEnt_ref {G : zG} {r kd : Nat} {fi : Nat → Int32} {fl : Nat → Int64} {fr : Nat → Option Nat} (h : zKD r = kd) (h1 : 19 ≤ kd) : zEnt G r fi fl fr = .inl (G.2.2.1 (kd - 16), zLN r, .inr (.inr (.inr (.inr (fun j => (fr j).map (zad G)))))) := by
  subst h
  unfold zEnt
  rw [if_neg (by omega), if_neg (by omega)]
theorem zFs_len (ad : Nat → Nat) (c : Nat) (fi : Nat → Int32) (fl : Nat → Int64) (fr : Nat → Option Nat) : (zFs ad c fi fl fr).length = zNf c := by simp [zFs]
theorem zFs_get {ad : Nat → Nat} {c k : Nat} {fi : Nat → Int32} {fl : Nat → Int64} {fr : Nat → Option Nat} (h : k < zNf c) : (zFs ad c fi fl fr)[k]? = some (zFv ad (zTyc (zTy c k)) (fi k) (fl k) (fr k)) := by
  unfold zFs
  rw [List.getElem?_map, List.getElem?_range h]
  rfl
theorem zFs_set {ad : Nat → Nat} {c k : Nat} {fi fi' : Nat → Int32} {fl fl' : Nat → Int64} {fr fr' : Nat → Option Nat} {v : Value} (hv : zFv ad (zTyc (zTy c k)) (fi' k) (fl' k) (fr' k) = v) (ho : ∀ j, j ≠ k → fi' j = fi j ∧ fl' j = fl j ∧ fr' j = fr j) : zFs ad c fi' fl' fr' = (zFs ad c fi fl fr).set k v := by
  apply List.ext_getElem?
  intro i
  by_cases hi : i < zNf c
  · rw [zFs_get hi]
    by_cases hk : i = k
    · subst hk
      rw [List.getElem?_set_self (by rw [zFs_len]; exact hi), hv]
    · obtain ⟨h1, h2, h3⟩ := ho i hk
      rw [List.getElem?_set_ne (fun q => hk q.symm), zFs_get hi, h1, h2, h3]
  · rw [List.getElem?_eq_none (by rw [zFs_len]; omega), List.getElem?_eq_none (by rw [List.length_set, zFs_len]; omega)]
theorem zFresh_up {n : Nat} {mi mi' : zFi} {ml ml' : zFl} {mr mr' : zFr} {r : Nat} (h : zFresh n mi ml mr) (hr : r < n) (ho : ∀ q, q ≠ r → mi' q = mi q ∧ ml' q = ml q ∧ mr' q = mr q) : zFresh n mi' ml' mr' := by
  intro q hq
  obtain ⟨h1, h2, h3⟩ := ho q (by omega)
  obtain ⟨g1, g2, g3⟩ := h q hq
  exact ⟨fun k => by rw [h1]; exact g1 k, fun k => by rw [h2]; exact g2 k, fun k => by rw [h3]; exact g3 k⟩
/-- behind a store into cell r -/
theorem zRl_set {G : zG} {n r : Nat} {mi mi' : zFi} {ml ml' : zFl} {mr mr' : zFr} {s : State} {H H1 : Heap} {locs locs1 : List Loc} {e : va_E} (hR : zRl G n mi ml mr s H locs) (hr : r < n) (he : zEnt G r (mi' r) (ml' r) (mr' r) = e) (ho : ∀ q, q ≠ r → mi' q = mi q ∧ ml' q = ml q ∧ mr' q = mr q)
    (hP : va_P G.2.1 vwCl ((zWs G n mi ml mr).set r (zad G r, e)) H1) (hD : va_D (zA G) ((zWs G n mi ml mr).set r (zad G r, e))) (hS : va_S (zA G) s.heap H1 locs1) : zRl G n mi' ml' mr' s H1 locs1 := by
  rw [zWs_set G he ho] at hP hD
  exact ⟨hS, hP, hD, hR.2.2.2.1, zFresh_up hR.2.2.2.2 hr ho⟩
theorem zp_o {α : Type} (f : Nat → Nat → α) (r k : Nat) (v : α) : ∀ q, q ≠ r → zp f r k v q = f q := fun _ h => zp_r f k v h
theorem zT_hin {C : String} {T : u_T} {N : Nat} (h : ∀ w ∈ u_ws C T N, w ∈ zT) : ∀ w ∈ u_ws C T N, w ∈ zT := h
section ZHEAP
variable {G : zG} {R : Room} {QQ : zQQ} {own mn : String} {cc : ByteArray} {nL : Nat} {ret : Option FieldType} {n0 pc : Nat} {L st : List Value} {n : Nat} {mi : zFi} {ml : zFl} {mr : zFr}
/-- getfield, whatever the field holds -/
theorem e_getg (pc' : Nat) {idx ci k r : Nat} {fin : Bool} {v : Value} (hd : decode cc pc = .ok (.getfield idx, 3)) (hl : zFL own idx ci k fin) (hp : pc + 3 = pc') (hk : zKD r = ci) (hr : r < n) (hv : zFv (zad G) (zTyc (zTy ci k)) (mi r k) (ml r k) (mr r k) = zTv (zad G) v) (kk : zE G R QQ own mn cc nL ret n0 pc' L (v :: st) n mi ml mr) : zE G R QQ own mn cc nL ret n0 pc L (.ref r :: st) n mi ml mr := by
  intro p e s m args below meth c H locs ls hC hR hL hn
  subst hp
  obtain ⟨C, T, N, hcls, hkN, hlink, -⟩ := hl
  have hlt := hcls.lt
  obtain ⟨c1, c2, c3, c4, c5, c6, c7⟩ := hcls
  subst c2
  have he := zWs_get G mi ml mr hr
  rw [zEnt_obj hk hlt] at he
  have hg := zFs_get (ad := zad G) (c := ci) (k := k) (fi := mi r) (fl := ml r) (fr := mr r) hkN
  rw [hv] at hg
  have K := kk p e s m args below meth c H locs ls hC hR hL hn
  obtain ⟨hx, hb, hrt, hml, hown, hts, hlk, hmn, hsz, had, hns, hout⟩ := hC
  rcases hlink with hw | ⟨h, hw⟩
  · exact va_get (D := G.2.1) (cl := vwCl) (tys := zTys G) (ci := ci) hx hb hts c3 hown hR.2.2.2.1 hR.2.1 r he c1 k hkN (hts _ hw) (fun x h9 => by rw [c6 k hkN] at h9; exact h9) hg hd K
  · exact va_getN (D := G.2.1) (cl := vwCl) (tys := zTys G) (ci := ci) hx hb hts c3 hown hR.2.2.2.1 hR.2.1 r he c1 k hkN (hns.use hw) (fun x h9 => by rw [c6 k hkN] at h9; exact h9) hg hd K
theorem e_geti (pc' : Nat) {idx ci k r : Nat} {fin : Bool} {v : Int32} (hd : decode cc pc = .ok (.getfield idx, 3)) (hl : zFL own idx ci k fin) (ht : zTyc (zTy ci k) = 0) (hp : pc + 3 = pc') (hk : zKD r = ci) (hr : r < n) (hv : mi r k = v) (kk : zE G R QQ own mn cc nL ret n0 pc' L (.int v :: st) n mi ml mr) : zE G R QQ own mn cc nL ret n0 pc L (.ref r :: st) n mi ml mr :=
  e_getg pc' hd hl hp hk hr (by rw [ht, hv]; rfl) kk
theorem e_getl (pc' : Nat) {idx ci k r : Nat} {fin : Bool} {v : Int64} (hd : decode cc pc = .ok (.getfield idx, 3)) (hl : zFL own idx ci k fin) (ht : zTyc (zTy ci k) = 1) (hp : pc + 3 = pc') (hk : zKD r = ci) (hr : r < n) (hv : ml r k = v) (kk : zE G R QQ own mn cc nL ret n0 pc' L (.long v :: st) n mi ml mr) : zE G R QQ own mn cc nL ret n0 pc L (.ref r :: st) n mi ml mr :=
  e_getg pc' hd hl hp hk hr (by rw [ht, hv]; rfl) kk
theorem e_getr (pc' : Nat) {idx ci k r v : Nat} {fin : Bool} (hd : decode cc pc = .ok (.getfield idx, 3)) (hl : zFL own idx ci k fin) (ht : zTyc (zTy ci k) = 2) (hp : pc + 3 = pc') (hk : zKD r = ci) (hr : r < n) (hv : mr r k = some v) (kk : zE G R QQ own mn cc nL ret n0 pc' L (.ref v :: st) n mi ml mr) : zE G R QQ own mn cc nL ret n0 pc L (.ref r :: st) n mi ml mr :=
  e_getg pc' hd hl hp hk hr (by rw [ht, hv]; rfl) kk
/-- putfield, whatever the field holds -/
theorem e_putg (pc' : Nat) {idx ci k r : Nat} {v : Value} {mi' : zFi} {ml' : zFl} {mr' : zFr} (hd : decode cc pc = .ok (.putfield idx, 3)) (hl : zFL own idx ci k false) (hn1 : narrow (zTy ci k) (zTv (zad G) v) = zTv (zad G) v) (hf : fits (zTy ci k) (zTv (zad G) v) = true) (hp : pc + 3 = pc') (hk : zKD r = ci) (hr : r < n)
    (ho : ∀ q, q ≠ r → mi' q = mi q ∧ ml' q = ml q ∧ mr' q = mr q) (hok : ∀ j, j ≠ k → mi' r j = mi r j ∧ ml' r j = ml r j ∧ mr' r j = mr r j) (hv : zFv (zad G) (zTyc (zTy ci k)) (mi' r k) (ml' r k) (mr' r k) = zTv (zad G) v) (kk : zE G R QQ own mn cc nL ret n0 pc' L st n mi' ml' mr') : zE G R QQ own mn cc nL ret n0 pc L (v :: .ref r :: st) n mi ml mr := by
  intro p e s m args below meth c H locs ls hC hR hL hn
  subst hp
  obtain ⟨C, T, N, hcls, hkN, hlink, hfi⟩ := hl
  have hlt := hcls.lt
  obtain ⟨c1, c2, c3, c4, c5, c6, c7⟩ := hcls
  subst c2
  have he := zWs_get G mi ml mr hr
  rw [zEnt_obj hk hlt] at he
  have hC0 := hC
  obtain ⟨hx, hb, hrt, hml, hown, hts, hlk, hmn, hsz, had, hns, hout⟩ := hC
  have fin1 : ∀ (H1 : Heap) (locs1 : List Loc), va_P G.2.1 vwCl ((zWs G n mi ml mr).set r (zad G r, .inr (ci, (zFs (zad G) ci (mi r) (ml r) (mr r)).set k (zTv (zad G) v)))) H1 → va_D (zA G) ((zWs G n mi ml mr).set r (zad G r, .inr (ci, (zFs (zad G) ci (mi r) (ml r) (mr r)).set k (zTv (zad G) v)))) → va_S (zA G) s.heap H1 locs1 →
      W p G.1 e R s m args below meth c H1 locs1 (n - n0) (zSl n - zSl n0) (QQ below args s) (F0 m (pc + 3) ls (st.map (zTv (zad G)))) := fun H1 locs1 hP hD hS =>
    kk p e s m args below meth c H1 locs1 ls hC0 (zRl_set hR hr (by rw [zEnt_obj hk hlt, zFs_set hv hok]) ho hP hD hS) hL hn
  rcases hlink with hw | ⟨h, hw⟩
  · exact va_put (D := G.2.1) (cl := vwCl) (tys := zTys G) (ci := ci) hx hb hts c3 (zTy ci) c4 c5 hown hR.2.2.2.1 hR.2.1 hR.2.2.1 hR.1 r he c1 k hkN (hts _ hw) (fun x h9 => by rw [c6 k hkN] at h9; exact h9) hfi (c4 k hkN) hn1 hf (by rw [zFs_len]; exact hkN) hd fin1
  · exact va_putN (D := G.2.1) (cl := vwCl) (tys := zTys G) (ci := ci) hx hb hts c3 (zTy ci) c4 c5 hown hR.2.2.2.1 hR.2.1 hR.2.2.1 hR.1 r he c1 k hkN (hns.use hw) (fun x h9 => by rw [c6 k hkN] at h9; exact h9) hfi (c4 k hkN) hn1 hf (by rw [zFs_len]; exact hkN) hd fin1
theorem e_putgF (pc' : Nat) {idx ci k r : Nat} {v : Value} {mi' : zFi} {ml' : zFl} {mr' : zFr} (hd : decode cc pc = .ok (.putfield idx, 3)) (hl : zFLd own idx ci k) (hin : mn = "<init>") (hn1 : narrow (zTy ci k) (zTv (zad G) v) = zTv (zad G) v) (hf : fits (zTy ci k) (zTv (zad G) v) = true) (hp : pc + 3 = pc') (hk : zKD r = ci) (hr : r < n)
    (ho : ∀ q, q ≠ r → mi' q = mi q ∧ ml' q = ml q ∧ mr' q = mr q) (hok : ∀ j, j ≠ k → mi' r j = mi r j ∧ ml' r j = ml r j ∧ mr' r j = mr r j) (hv : zFv (zad G) (zTyc (zTy ci k)) (mi' r k) (ml' r k) (mr' r k) = zTv (zad G) v) (kk : zE G R QQ own mn cc nL ret n0 pc' L st n mi' ml' mr') : zE G R QQ own mn cc nL ret n0 pc L (v :: .ref r :: st) n mi ml mr := by
  intro p e s m args below meth c H locs ls hC hR hL hn
  subst hp
  obtain ⟨T, N, hcls, hkN, hw, hfi⟩ := hl
  have hlt := hcls.lt
  obtain ⟨c1, c2, c3, c4, c5, c6, c7⟩ := hcls
  subst c2
  have he := zWs_get G mi ml mr hr
  rw [zEnt_obj hk hlt] at he
  have hC0 := hC
  obtain ⟨hx, hb, hrt, hml, hown, hts, hlk, hmn, hsz, had, hns, hout⟩ := hC
  have fin1 : ∀ (H1 : Heap) (locs1 : List Loc), va_P G.2.1 vwCl ((zWs G n mi ml mr).set r (zad G r, .inr (ci, (zFs (zad G) ci (mi r) (ml r) (mr r)).set k (zTv (zad G) v)))) H1 → va_D (zA G) ((zWs G n mi ml mr).set r (zad G r, .inr (ci, (zFs (zad G) ci (mi r) (ml r) (mr r)).set k (zTv (zad G) v)))) → va_S (zA G) s.heap H1 locs1 →
      W p G.1 e R s m args below meth c H1 locs1 (n - n0) (zSl n - zSl n0) (QQ below args s) (F0 m (pc + 3) ls (st.map (zTv (zad G)))) := fun H1 locs1 hP hD hS =>
    kk p e s m args below meth c H1 locs1 ls hC0 (zRl_set hR hr (by rw [zEnt_obj hk hlt, zFs_set hv hok]) ho hP hD hS) hL hn
  exact va_putF (D := G.2.1) (cl := vwCl) (tys := zTys G) (ci := ci) hx hb hts c3 (zTy ci) c4 c5 hown hR.2.2.2.1 hR.2.1 hR.2.2.1 hR.1 r he c1 k hkN (hts _ hw) (fun x h9 => by rw [c6 k hkN] at h9; exact h9) hfi (hmn.trans hin) (c6 k hkN) (c4 k hkN) hn1 hf (by rw [zFs_len]; exact hkN) hd fin1
theorem e_puti (pc' : Nat) {idx ci k r : Nat} {x : Int32} (hd : decode cc pc = .ok (.putfield idx, 3)) (hl : zFL own idx ci k false) (ht : zTyc (zTy ci k) = 0) (hn1 : narrow (zTy ci k) (.int x) = .int x) (hf : fits (zTy ci k) (.int x) = true) (hp : pc + 3 = pc') (hk : zKD r = ci) (hr : r < n)
    (kk : zE G R QQ own mn cc nL ret n0 pc' L st n (zp mi r k x) ml mr) : zE G R QQ own mn cc nL ret n0 pc L (.int x :: .ref r :: st) n mi ml mr :=
  e_putg pc' hd hl hn1 hf hp hk hr (fun q h => ⟨zp_r _ _ _ h, rfl, rfl⟩) (fun j h => ⟨zp_k _ _ h, rfl, rfl⟩) (by rw [ht, zp_s]; rfl) kk
theorem e_putl (pc' : Nat) {idx ci k r : Nat} {x : Int64} (hd : decode cc pc = .ok (.putfield idx, 3)) (hl : zFL own idx ci k false) (ht : zTyc (zTy ci k) = 1) (hn1 : narrow (zTy ci k) (.long x) = .long x) (hf : fits (zTy ci k) (.long x) = true) (hp : pc + 3 = pc') (hk : zKD r = ci) (hr : r < n)
    (kk : zE G R QQ own mn cc nL ret n0 pc' L st n mi (zp ml r k x) mr) : zE G R QQ own mn cc nL ret n0 pc L (.long x :: .ref r :: st) n mi ml mr :=
  e_putg pc' hd hl hn1 hf hp hk hr (fun q h => ⟨rfl, zp_r _ _ _ h, rfl⟩) (fun j h => ⟨rfl, zp_k _ _ h, rfl⟩) (by rw [ht, zp_s]; rfl) kk
theorem e_putr (pc' : Nat) {idx ci k r x : Nat} (hd : decode cc pc = .ok (.putfield idx, 3)) (hl : zFL own idx ci k false) (ht : zTyc (zTy ci k) = 2) (hn1 : ∀ a, narrow (zTy ci k) (.ref a) = .ref a) (hf : ∀ a, fits (zTy ci k) (.ref a) = true) (hp : pc + 3 = pc') (hk : zKD r = ci) (hr : r < n)
    (kk : zE G R QQ own mn cc nL ret n0 pc' L st n mi ml (zp mr r k (some x))) : zE G R QQ own mn cc nL ret n0 pc L (.ref x :: .ref r :: st) n mi ml mr :=
  e_putg pc' hd hl (hn1 _) (hf _) hp hk hr (fun q h => ⟨rfl, rfl, zp_r _ _ _ h⟩) (fun j h => ⟨rfl, rfl, zp_k _ _ h⟩) (by rw [ht, zp_s]; rfl) kk
theorem e_putrF (pc' : Nat) {idx ci k r x : Nat} (hd : decode cc pc = .ok (.putfield idx, 3)) (hl : zFLd own idx ci k) (hin : mn = "<init>") (ht : zTyc (zTy ci k) = 2) (hn1 : ∀ a, narrow (zTy ci k) (.ref a) = .ref a) (hf : ∀ a, fits (zTy ci k) (.ref a) = true) (hp : pc + 3 = pc') (hk : zKD r = ci) (hr : r < n)
    (kk : zE G R QQ own mn cc nL ret n0 pc' L st n mi ml (zp mr r k (some x))) : zE G R QQ own mn cc nL ret n0 pc L (.ref x :: .ref r :: st) n mi ml mr :=
  e_putgF pc' hd hl hin (hn1 _) (hf _) hp hk hr (fun q h => ⟨rfl, rfl, zp_r _ _ _ h⟩) (fun j h => ⟨rfl, rfl, zp_k _ _ h⟩) (by rw [ht, zp_s]; rfl) kk
/-! arrays -/
theorem e_ald (pc' : Nat) (kd : Nat) {r j : Nat} {i v : Int32} (hk1 : 16 ≤ kd) (hk2 : kd < 19) (hk : zKD r = kd) (hr : r < n) (hi : i = nI j) (hj : j < zLN r) (hv : mi r j = v)
    (row : ∀ (p : Program) (e : Env) (s : State) (m : MethodId) (args : Array Value) (below : List Frame) (meth : Method) (c : Code) (H : Heap) (locs : List Loc) (ls : Array Slot) (ws : va_W) (q0 : Nat) (cA : ClassId) (a nn : Nat) (f : Nat → Int32) (Q : State → Prop) (k1 k2 : Nat), p.tables.exec = Jvm.exec → c.code = cc → va_K G.2.1 vwCl (zTys G) s → va_P G.2.1 vwCl ws H → ws[q0]? = some (a, .inl (cA, nn, .inl f)) → G.2.2.1 (kd - 16) = cA → vp_in i nn →
      W p G.1 e R s m args below meth c H locs k1 k2 Q (F0 m pc' ls (.int (f i.toNatClampNeg) :: st.map (zTv (zad G)))) → W p G.1 e R s m args below meth c H locs k1 k2 Q (F0 m pc ls (.int i :: .ref a :: st.map (zTv (zad G)))))
    (kk : zE G R QQ own mn cc nL ret n0 pc' L (.int v :: st) n mi ml mr) : zE G R QQ own mn cc nL ret n0 pc L (.int i :: .ref r :: st) n mi ml mr := by
  intro p e s m args below meth c H locs ls hC hR hL hn
  subst hi
  subst hv
  have he := zWs_get G mi ml mr hr
  rw [zEnt_int hk hk1 hk2] at he
  have hb9 := zLN_le r
  have K := kk p e s m args below meth c H locs ls hC hR hL hn
  refine row p e s m args below meth c H locs ls _ r _ _ _ _ _ _ _ hC.1 hC.2.1 hR.2.2.2.1 hR.2.1 he rfl (vp_in_nI hj (by omega)) ?_
  rw [nI_clamp (by omega)]
  exact K
theorem e_iald (pc' : Nat) {r j : Nat} {i v : Int32} (hd : decode cc pc = .ok (.iaload, 1)) (hp : pc + 1 = pc') (hk : zKD r = 16) (hr : r < n) (hi : i = nI j) (hj : j < zLN r) (hv : mi r j = v) (kk : zE G R QQ own mn cc nL ret n0 pc' L (.int v :: st) n mi ml mr) : zE G R QQ own mn cc nL ret n0 pc L (.int i :: .ref r :: st) n mi ml mr := by
  subst hp
  exact e_ald (pc + 1) 16 (by decide) (by decide) hk hr hi hj hv (fun p e s m args below meth c H locs ls ws q0 cA a nn f Q k1 k2 hx hb hK hP he hc hin K => va_iald hx hb hK hP q0 0 he (by rw [← hc]; rfl) hin hd K) kk
theorem e_cald (pc' : Nat) {r j : Nat} {i v : Int32} (hd : decode cc pc = .ok (.caload, 1)) (hp : pc + 1 = pc') (hk : zKD r = 17) (hr : r < n) (hi : i = nI j) (hj : j < zLN r) (hv : mi r j = v) (kk : zE G R QQ own mn cc nL ret n0 pc' L (.int v :: st) n mi ml mr) : zE G R QQ own mn cc nL ret n0 pc L (.int i :: .ref r :: st) n mi ml mr := by
  subst hp
  exact e_ald (pc + 1) 17 (by decide) (by decide) hk hr hi hj hv (fun p e s m args below meth c H locs ls ws q0 cA a nn f Q k1 k2 hx hb hK hP he hc hin K => va_cald hx hb hK hP q0 1 he (by rw [← hc]; rfl) hin hd K) kk
theorem e_zald (pc' : Nat) {r j : Nat} {i v : Int32} (hd : decode cc pc = .ok (.baload, 1)) (hp : pc + 1 = pc') (hk : zKD r = 18) (hr : r < n) (hi : i = nI j) (hj : j < zLN r) (hv : mi r j = v) (kk : zE G R QQ own mn cc nL ret n0 pc' L (.int v :: st) n mi ml mr) : zE G R QQ own mn cc nL ret n0 pc L (.int i :: .ref r :: st) n mi ml mr := by
  subst hp
  exact e_ald (pc + 1) 18 (by decide) (by decide) hk hr hi hj hv (fun p e s m args below meth c H locs ls ws q0 cA a nn f Q k1 k2 hx hb hK hP he hc hin K => va_zald hx hb hK hP q0 2 he (by rw [← hc]; rfl) hin hd K) kk
theorem upd_zu (f : Nat → Int32) (k : Nat) (x : Int32) : upd f k x = zu f k x := by
  funext j
  rfl
theorem e_ast (pc' : Nat) (kd : Nat) {r j : Nat} {i x x' : Int32} (hk1 : 16 ≤ kd) (hk2 : kd < 19) (hk : zKD r = kd) (hr : r < n) (hi : i = nI j) (hj : j < zLN r)
    (row : ∀ (p : Program) (e : Env) (s : State) (m : MethodId) (args : Array Value) (below : List Frame) (meth : Method) (c : Code) (H : Heap) (locs : List Loc) (ls : Array Slot) (ws : va_W) (q0 : Nat) (cA : ClassId) (a nn : Nat) (f : Nat → Int32) (Q : State → Prop) (k1 k2 : Nat), p.tables.exec = Jvm.exec → c.code = cc → va_K G.2.1 vwCl (zTys G) s → va_P G.2.1 vwCl ws H → va_D (zA G) ws → va_S (zA G) s.heap H locs → ws[q0]? = some (a, .inl (cA, nn, .inl f)) → G.2.2.1 (kd - 16) = cA → vp_in i nn →
      (∀ (H1 : Heap) (locs1 : List Loc), va_P G.2.1 vwCl (ws.set q0 (a, .inl (cA, nn, .inl (upd f i.toNatClampNeg x')))) H1 → va_D (zA G) (ws.set q0 (a, .inl (cA, nn, .inl (upd f i.toNatClampNeg x')))) → va_S (zA G) s.heap H1 locs1 → W p G.1 e R s m args below meth c H1 locs1 k1 k2 Q (F0 m pc' ls (st.map (zTv (zad G))))) → W p G.1 e R s m args below meth c H locs k1 k2 Q (F0 m pc ls (.int x :: .int i :: .ref a :: st.map (zTv (zad G)))))
    (kk : zE G R QQ own mn cc nL ret n0 pc' L st n (zp mi r j x') ml mr) : zE G R QQ own mn cc nL ret n0 pc L (.int x :: .int i :: .ref r :: st) n mi ml mr := by
  intro p e s m args below meth c H locs ls hC hR hL hn
  subst hi
  have he := zWs_get G mi ml mr hr
  rw [zEnt_int hk hk1 hk2] at he
  have hb9 := zLN_le r
  refine row p e s m args below meth c H locs ls _ r _ _ _ _ _ _ _ hC.1 hC.2.1 hR.2.2.2.1 hR.2.1 hR.2.2.1 hR.1 he rfl (vp_in_nI hj (by omega)) ?_
  rw [nI_clamp (by omega)]
  intro H1 locs1 hP hD hS
  exact kk p e s m args below meth c H1 locs1 ls hC (zRl_set hR hr (by rw [zEnt_int hk hk1 hk2, zp_row, upd_zu]) (fun q h => ⟨zp_r _ _ _ h, rfl, rfl⟩) hP hD hS) hL hn
theorem e_iast (pc' : Nat) {r j : Nat} {i x : Int32} (hd : decode cc pc = .ok (.iastore, 1)) (hp : pc + 1 = pc') (hk : zKD r = 16) (hr : r < n) (hi : i = nI j) (hj : j < zLN r) (kk : zE G R QQ own mn cc nL ret n0 pc' L st n (zp mi r j x) ml mr) : zE G R QQ own mn cc nL ret n0 pc L (.int x :: .int i :: .ref r :: st) n mi ml mr := by
  subst hp
  exact e_ast (pc + 1) 16 (by decide) (by decide) hk hr hi hj (fun p e s m args below meth c H locs ls ws q0 cA a nn f Q k1 k2 hx hb hK hP hD hS he hc hin K => va_iast hx hb hK hP hD hS q0 0 he (by rw [← hc]; rfl) hin hd K) kk
theorem e_cast (pc' : Nat) {r j : Nat} {i x x' : Int32} (hd : decode cc pc = .ok (.castore, 1)) (hp : pc + 1 = pc') (hk : zKD r = 17) (hr : r < n) (hi : i = nI j) (hj : j < zLN r) (hx' : vp_nar .char x = x') (kk : zE G R QQ own mn cc nL ret n0 pc' L st n (zp mi r j x') ml mr) : zE G R QQ own mn cc nL ret n0 pc L (.int x :: .int i :: .ref r :: st) n mi ml mr := by
  subst hp
  subst hx'
  exact e_ast (pc + 1) 17 (by decide) (by decide) hk hr hi hj (fun p e s m args below meth c H locs ls ws q0 cA a nn f Q k1 k2 hx hb hK hP hD hS he hc hin K => va_cast hx hb hK hP hD hS q0 1 he (by rw [← hc]; rfl) hin hd K) kk
theorem e_zast (pc' : Nat) {r j : Nat} {i x x' : Int32} (hd : decode cc pc = .ok (.bastore, 1)) (hp : pc + 1 = pc') (hk : zKD r = 18) (hr : r < n) (hi : i = nI j) (hj : j < zLN r) (hx' : vp_nar .boolean x = x') (kk : zE G R QQ own mn cc nL ret n0 pc' L st n (zp mi r j x') ml mr) : zE G R QQ own mn cc nL ret n0 pc L (.int x :: .int i :: .ref r :: st) n mi ml mr := by
  subst hp
  subst hx'
  exact e_ast (pc + 1) 18 (by decide) (by decide) hk hr hi hj (fun p e s m args below meth c H locs ls ws q0 cA a nn f Q k1 k2 hx hb hK hP hD hS he hc hin K => va_zast hx hb hK hP hD hS q0 2 he (by rw [← hc]; rfl) hin hd K) kk
theorem e_aald (pc' : Nat) {r j v : Nat} {i : Int32} (hd : decode cc pc = .ok (.aaload, 1)) (hp : pc + 1 = pc') (hk : zKD r = 19 ∨ zKD r = 20 ∨ zKD r = 21) (hr : r < n) (hi : i = nI j) (hj : j < zLN r) (hv : mr r j = some v) (kk : zE G R QQ own mn cc nL ret n0 pc' L (.ref v :: st) n mi ml mr) : zE G R QQ own mn cc nL ret n0 pc L (.int i :: .ref r :: st) n mi ml mr := by
  intro p e s m args below meth c H locs ls hC hR hL hn
  subst hp
  subst hi
  have hb9 := zLN_le r
  have he := zWs_get G mi ml mr hr
  have K := kk p e s m args below meth c H locs ls hC hR hL hn
  have hin : vp_in (nI j) (zLN r) := vp_in_nI hj (by omega)
  have hcl : (nI j).toNatClampNeg = j := nI_clamp (by omega)
  have hval : va_rf ((mr r (nI j).toNatClampNeg).map (zad G)) = .ref (zad G v) := by rw [hcl, hv]; rfl
  rcases hk with h | h | h
  · rw [zEnt_ref h (by decide)] at he
    refine va_aldq (C := RX2) hC.1 hC.2.1 hR.2.2.2.1 hR.2.1 r 3 he rfl hin hd ?_
    rw [hval]
    exact K
  · rw [zEnt_ref h (by decide)] at he
    refine va_aldq (C := RX3) hC.1 hC.2.1 hR.2.2.2.1 hR.2.1 r 4 he rfl hin hd ?_
    rw [hval]
    exact K
  · rw [zEnt_ref h (by decide)] at he
    have hP := hR.2.1 r _ he
    refine W.aald (v := .ref (zad G v)) (ty := .array .int) hC.1 hC.2.1 hP ((hR.2.2.2.1.2 5 _ rfl).1 (zLN r) (fun q => va_rf ((mr r q).map (zad G)))) rfl (fun q => by cases q) (by show ¬ (nI j < 0 ∨ (arrV _ _ _).slots.size ≤ _); rw [arrV_size]; exact hin) (by show (arrV _ _ _).slots[_]? = _; rw [arrV_read _ _ (by rw [hcl]; exact hj), hval]) rfl rfl hd K
theorem e_alen (pc' : Nat) {r : Nat} (kd : Nat) (hd : decode cc pc = .ok (.arraylength, 1)) (hp : pc + 1 = pc') (hk1 : 16 ≤ kd) (hk2 : kd < 19) (hk : zKD r = kd) (hr : r < n) (kk : zE G R QQ own mn cc nL ret n0 pc' L (.int (nI (zLN r)) :: st) n mi ml mr) : zE G R QQ own mn cc nL ret n0 pc L (.ref r :: st) n mi ml mr := by
  intro p e s m args below meth c H locs ls hC hR hL hn
  subst hp
  have he := zWs_get G mi ml mr hr
  rw [zEnt_int hk hk1 hk2] at he
  have K := kk p e s m args below meth c H locs ls hC hR hL hn
  have h3 : kd = 16 ∨ kd = 17 ∨ kd = 18 := by omega
  rcases h3 with rfl | rfl | rfl
  · exact va_alen hC.1 hC.2.1 hR.2.2.2.1 hR.2.1 r 0 he rfl rfl hd K
  · exact va_alen hC.1 hC.2.1 hR.2.2.2.1 hR.2.1 r 1 he rfl rfl hd K
  · exact va_alen hC.1 hC.2.1 hR.2.2.2.1 hR.2.1 r 2 he rfl rfl hd K
end ZHEAP
