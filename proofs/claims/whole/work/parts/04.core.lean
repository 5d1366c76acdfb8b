/-! THE PURE PICTURE: every cell has a number r (the order of its making); what it holds are three functions of (cell, place): ints, longs, references. -/
abbrev zFi : Type := Nat → Nat → Int32
abbrev zFl : Type := Nat → Nat → Int64
abbrev zFr : Type := Nat → Nat → Option Nat
/-- one place of a function anew -/
def zu {α : Type} (f : Nat → α) (k : Nat) (v : α) : Nat → α := fun j => if j = k then v else f j
theorem zu_s {α : Type} (f : Nat → α) (k : Nat) (v : α) : zu f k v k = v := if_pos rfl
theorem zu_n {α : Type} (f : Nat → α) {k j : Nat} (v : α) (h : j ≠ k) : zu f k v j = f j := if_neg h
theorem zu_zu {α : Type} (f : Nat → α) (k : Nat) (v w : α) : zu (zu f k v) k w = zu f k w := by
  funext j
  by_cases h : j = k <;> simp [zu, h]
theorem zu_id {α : Type} (f : Nat → α) (k : Nat) : zu f k (f k) = f := by
  funext j
  by_cases h : j = k <;> simp [zu, h]
/-- place (r, k) anew -/
def zp {α : Type} (f : Nat → Nat → α) (r k : Nat) (v : α) : Nat → Nat → α := zu f r (zu (f r) k v)
theorem zp_s {α : Type} (f : Nat → Nat → α) (r k : Nat) (v : α) : zp f r k v r k = v := by simp [zp, zu]
theorem zp_r {α : Type} (f : Nat → Nat → α) {r r' : Nat} (k : Nat) (v : α) (h : r' ≠ r) : zp f r k v r' = f r' := by simp [zp, zu, h]
theorem zp_row {α : Type} (f : Nat → Nat → α) (r k : Nat) (v : α) : zp f r k v r = zu (f r) k v := by simp [zp, zu]
theorem zp_k {α : Type} (f : Nat → Nat → α) {r k r' k' : Nat} (v : α) (h : k' ≠ k) : zp f r k v r' k' = f r' k' := by
  by_cases hr : r' = r
  · subst hr; simp [zp, zu, h]
  · simp [zp, zu, hr]
/-! THE LAYOUT: kinds (0..8: the class's place in vwCl; 16 int[], 17 char[], 18 boolean[], 19 Life[], 20 Moment[], 21 int[][]) and lengths of the cells by their numbers -/
def zLifeK (j : Nat) : Nat := if j = 0 then 2 else if j = 1 then 21 else if j = 5 then 21 else 16
def zLifeN (j : Nat) : Nat := if j = 0 then 0 else if j = 1 then 3 else if j < 5 then 70 else if j = 5 then 3 else 100
def zMomK (j : Nat) : Nat := if j = 0 then 3 else if j = 1 then 5 else if j < 6 then 16 else if j = 6 then 19 else zLifeK ((j - 7) % 11)
def zMomN (j : Nat) : Nat := if j < 2 then 0 else if j < 6 then 10 else if j = 6 then 5 else zLifeN ((j - 7) % 11)
def zLandK (j : Nat) : Nat := if j = 0 then 0 else if j < 5 then 16 else 18
def zLandN (j : Nat) : Nat := if j = 0 then 0 else if j = 1 then 9 else 5
def zKD (r : Nat) : Nat :=
  if r < 3 then (if r = 0 then 7 else if r = 1 then 4 else 17) else
  if r < 65 then zMomK (r - 3) else
  if r < 77 then (if r = 65 then 20 else if r = 66 then 18 else if r = 67 then 1 else if r = 68 then 16 else if r = 69 then 6 else if r < 72 then 16 else if r = 72 then 5 else 16) else
  if r < 88 then zLifeK (r - 77) else
  if r < 94 then zLandK (r - 88) else
  if r < 100 then zLandK (r - 94) else
  if r < 162 then zMomK (r - 100) else
  if r < 224 then zMomK (r - 162) else
  if r = 224 then 8 else if r = 228 then 18 else if r < 238 then 16 else 99
def zMdN (j : Nat) : Nat := if j < 2 then 2950 else if j = 2 then 5900 else if j = 3 then 2 else if j = 4 then 300 else if j = 5 then 10 else if j = 6 then 18 else if j = 7 then 40 else if j = 8 then 4 else if j = 9 then 120 else 3
def zLN (r : Nat) : Nat :=
  if r < 3 then (if r = 2 then 300 else 0) else
  if r < 65 then zMomN (r - 3) else
  if r < 77 then (if r = 65 then 2 else if r = 66 then 2 else if r = 67 then 0 else if r = 68 then 5 else if r = 69 then 0 else if r < 72 then 40 else if r = 72 then 0 else 10) else
  if r < 88 then zLifeN (r - 77) else
  if r < 94 then zLandN (r - 88) else
  if r < 100 then zLandN (r - 94) else
  if r < 162 then zMomN (r - 100) else
  if r < 224 then zMomN (r - 162) else
  if r = 224 then 0 else zMdN (r - 225)
/-- how many fields a class has; what a field holds: 0 an int, 1 a long, 2 a reference -/
def zNf (c : Nat) : Nat := if c = 0 then 11 else if c = 1 then 6 else if c = 2 then 4 else if c = 3 then 4 else if c = 4 then 8 else if c = 5 then 5 else if c = 6 then 3 else if c = 7 then 12 else 31
def zTyc : FieldType → Nat
  | .long => 1
  | .object _ => 2
  | .array _ => 2
  | _ => 0
def zTy (c : Nat) : Nat → FieldType := if c = 0 then tyX0 else if c = 1 then tyX1 else if c = 2 then tyX2 else if c = 3 then tyX3 else if c = 4 then tyX4 else if c = 5 then tyX5 else if c = 6 then tyX6 else if c = 7 then tyX7 else tyX8
/-- slots of a cell; of all cells below n -/
def zSz (r : Nat) : Nat := if zKD r < 16 then zNf (zKD r) else zLN r
def zSl : Nat → Nat
  | 0 => 0
  | n + 1 => zSl n + zSz n
theorem zSl_le {a b : Nat} (h : a ≤ b) : zSl a ≤ zSl b := by
  induction b with
  | zero => rw [Nat.le_zero.mp h]; exact Nat.le_refl _
  | succ b ih =>
    rcases Nat.lt_or_ge a (b + 1) with q | q
    · exact Nat.le_trans (ih (Nat.le_of_lt_succ q)) (Nat.le_add_right _ _)
    · rw [Nat.le_antisymm h q]; exact Nat.le_refl _
/-! THE FIXED THINGS of a run: the launch, the classes' numbers, the array classes' numbers, the cells' addresses, the first own address, the script (cell, length, ints) -/
abbrev zG : Type := Launch × va_G × (Nat → ClassId) × (Nat → Nat) × Nat × Nat × Nat × (Nat → Int32)
abbrev zad (G : zG) : Nat → Nat := G.2.2.2.1
def zA (G : zG) : Nat → Prop := fun q => G.2.2.2.2.1 ≤ q
def zTv (ad : Nat → Nat) : Value → Value
  | .ref r => .ref (ad r)
  | v => v
theorem zTv_cat (ad : Nat → Nat) (v : Value) : (zTv ad v).category = v.category := by cases v <;> rfl
theorem zTv_cats (ad : Nat → Nat) (l : List Value) : ((l.map (zTv ad)).map fun v => v.category) = l.map fun v => v.category := by
  rw [List.map_map]
  exact List.map_congr_left fun v _ => zTv_cat ad v
def zFv (ad : Nat → Nat) (t : Nat) (a : Int32) (b : Int64) (c : Option Nat) : Value := if t = 0 then .int a else if t = 1 then .long b else va_rf (c.map ad)
def zFs (ad : Nat → Nat) (c : Nat) (fi : Nat → Int32) (fl : Nat → Int64) (fr : Nat → Option Nat) : List Value := (List.range (zNf c)).map fun k => zFv ad (zTyc (zTy c k)) (fi k) (fl k) (fr k)
def zEnt (G : zG) (r : Nat) (fi : Nat → Int32) (fl : Nat → Int64) (fr : Nat → Option Nat) : va_E :=
  if zKD r < 16 then .inr (zKD r, zFs (zad G) (zKD r) fi fl fr)
  else .inl (G.2.2.1 (zKD r - 16), zLN r, if zKD r < 19 then .inl fi else .inr (.inr (.inr (.inr (fun j => (fr j).map (zad G))))))
def zWs (G : zG) (n : Nat) (mi : zFi) (ml : zFl) (mr : zFr) : va_W := (List.range n).map fun r => (zad G r, zEnt G r (mi r) (ml r) (mr r))
def zTys (G : zG) : List (ClassId × FieldType) := [(G.2.2.1 0, .int), (G.2.2.1 1, .char), (G.2.2.1 2, .boolean), (G.2.2.1 3, .object RX2), (G.2.2.1 4, .object RX3), (G.2.2.1 5, .array .int)]
theorem zWs_get (G : zG) {n r : Nat} (mi : zFi) (ml : zFl) (mr : zFr) (h : r < n) : (zWs G n mi ml mr)[r]? = some (zad G r, zEnt G r (mi r) (ml r) (mr r)) := by
  unfold zWs
  rw [List.getElem?_map, List.getElem?_range h]
  rfl
theorem zWs_len (G : zG) (n : Nat) (mi : zFi) (ml : zFl) (mr : zFr) : (zWs G n mi ml mr).length = n := by simp [zWs]
/-- one cell anew -/
theorem zWs_set (G : zG) {n r : Nat} {mi mi' : zFi} {ml ml' : zFl} {mr mr' : zFr} {e : va_E} (he : zEnt G r (mi' r) (ml' r) (mr' r) = e) (ho : ∀ q, q ≠ r → mi' q = mi q ∧ ml' q = ml q ∧ mr' q = mr q) :
    (zWs G n mi ml mr).set r (zad G r, e) = zWs G n mi' ml' mr' := by
  apply List.ext_getElem?
  intro i
  by_cases hi : i < n
  · rw [zWs_get G mi' ml' mr' hi]
    by_cases hr : i = r
    · subst hr
      rw [List.getElem?_set_self (by rw [zWs_len]; exact hi), he]
    · obtain ⟨h1, h2, h3⟩ := ho i hr
      rw [List.getElem?_set_ne (fun q => hr q.symm), zWs_get G mi ml mr hi, h1, h2, h3]
  · rw [List.getElem?_eq_none (by rw [List.length_set, zWs_len]; omega), List.getElem?_eq_none (by rw [zWs_len]; omega)]
/-- one cell more -/
theorem zWs_push (G : zG) (n : Nat) (mi : zFi) (ml : zFl) (mr : zFr) : zWs G (n + 1) mi ml mr = zWs G n mi ml mr ++ [(zad G n, zEnt G n (mi n) (ml n) (mr n))] := by
  unfold zWs
  rw [List.range_succ, List.map_append]
  rfl
/-- what is not made yet holds nothing -/
def zFresh (n : Nat) (mi : zFi) (ml : zFl) (mr : zFr) : Prop := ∀ r, n ≤ r → (∀ k, mi r k = 0) ∧ (∀ k, ml r k = 0) ∧ ∀ k, mr r k = none
/-! locals -/
def zok : Value → Bool
  | .retAddr _ => false
  | _ => true
/-- an empty place -/
abbrev zx : Value := .retAddr 0
def zLs (ad : Nat → Nat) (ls : Array Slot) (nL : Nat) (L : List Value) : Prop := ls.size = nL ∧ lv_wf ls ∧ ∀ (i : Nat) (v : Value), L[i]? = some v → zok v = true → ls[i]? = some (.val (zTv ad v))
def zLv (ad : Nat → Nat) (L : List Value) : List (Nat × Value) := (List.range L.length).filterMap fun i => match L[i]? with
  | some v => if zok v = true then some (i, zTv ad v) else none
  | none => none
theorem zLv_mem {ad : Nat → Nat} {L : List Value} {q : Nat × Value} : q ∈ zLv ad L ↔ ∃ v, L[q.1]? = some v ∧ zok v = true ∧ q.2 = zTv ad v := by
  unfold zLv
  rw [List.mem_filterMap]
  constructor
  · rintro ⟨i, hi, h⟩
    cases hv : L[i]? with
    | none => rw [hv] at h; cases h
    | some v =>
      rw [hv] at h
      dsimp only at h
      by_cases hz : zok v = true
      · rw [if_pos hz] at h
        cases h
        exact ⟨v, hv, hz, rfl⟩
      · rw [if_neg hz] at h
        cases h
  · rintro ⟨v, h1, h2, h3⟩
    refine ⟨q.1, List.mem_range.mpr (List.getElem?_eq_some_iff.mp h1).1, ?_⟩
    rw [h1]
    dsimp only
    rw [if_pos h2, ← h3]
theorem zLs_has {ad : Nat → Nat} {ls : Array Slot} {nL : Nat} {L : List Value} : zLs ad ls nL L ↔ lv_has ls nL (zLv ad L) := by
  constructor
  · rintro ⟨h1, h2, h3⟩
    refine ⟨h1, h2, fun q hq => ?_⟩
    obtain ⟨v, a, b, c⟩ := zLv_mem.mp hq
    rw [c]
    exact h3 q.1 v a b
  · rintro ⟨h1, h2, h3⟩
    refine ⟨h1, h2, fun i v hv hz => ?_⟩
    exact h3 (i, zTv ad v) (zLv_mem.mpr ⟨v, hv, hz, rfl⟩)
/-- what holds of the locals behind a store: L' says nothing but the new value and what was there, longs that reach into the place apart -/
theorem zLs_st1 {ad : Nat → Nat} {ls : Array Slot} {nL i : Nat} {L L' : List Value} {v : Value} (h : lv_has ls nL ((i, zTv ad v) :: (zLv ad L).filter (fun q => !(q.1 == i) && !(q.1 + 1 == i && q.2.category == 2))))
    (hL : ∀ (j : Nat) (w : Value), L'[j]? = some w → zok w = true → (j = i ∧ w = v) ∨ (j ≠ i ∧ L[j]? = some w ∧ (j + 1 = i → w.category = 1))) : zLs ad ls nL L' := by
  refine ⟨h.1, h.2.1, fun j w hj hz => ?_⟩
  rcases hL j w hj hz with ⟨rfl, rfl⟩ | ⟨hne, hl, hc⟩
  · exact h.2.2 (j, zTv ad w) List.mem_cons_self
  · refine h.2.2 (j, zTv ad w) (List.mem_cons_of_mem _ (List.mem_filter.mpr ⟨zLv_mem.mpr ⟨w, hl, hz, rfl⟩, ?_⟩))
    have h1 : (j == i) = false := by simp [hne]
    by_cases h2 : j + 1 = i
    · have h3 := hc h2
      simp [h1, zTv_cat, h3]
    · simp [h1, h2]
theorem zLs_st2 {ad : Nat → Nat} {ls : Array Slot} {nL i : Nat} {L L' : List Value} {v : Value} (h : lv_has ls nL ((i, zTv ad v) :: (zLv ad L).filter (fun q => !(q.1 == i) && (!(q.1 == i + 1) && !(q.1 + 1 == i && q.2.category == 2)))))
    (hL : ∀ (j : Nat) (w : Value), L'[j]? = some w → zok w = true → (j = i ∧ w = v) ∨ (j ≠ i ∧ j ≠ i + 1 ∧ L[j]? = some w ∧ (j + 1 = i → w.category = 1))) : zLs ad ls nL L' := by
  refine ⟨h.1, h.2.1, fun j w hj hz => ?_⟩
  rcases hL j w hj hz with ⟨rfl, rfl⟩ | ⟨hne, hne2, hl, hc⟩
  · exact h.2.2 (j, zTv ad w) List.mem_cons_self
  · refine h.2.2 (j, zTv ad w) (List.mem_cons_of_mem _ (List.mem_filter.mpr ⟨zLv_mem.mpr ⟨w, hl, hz, rfl⟩, ?_⟩))
    have h1 : (j == i) = false := by simp [hne]
    have h4 : (j == i + 1) = false := by simp [hne2]
    by_cases h2 : j + 1 = i
    · have h3 := hc h2
      simp [h1, h4, zTv_cat, h3]
    · simp [h1, h4, h2]
/-- stores into the list: place i, its forerunner emptied if it is a long -/
def zst1 : List Value → Nat → Value → List Value
  | [], _, _ => []
  | _ :: t, 0, v => v :: t
  | a :: t, 1, v => (match a with | .long _ => zx | .double _ => zx | b => b) :: zst1 t 0 v
  | a :: t, i + 2, v => a :: zst1 t (i + 1) v
def zst2 (L : List Value) (i : Nat) (v : Value) : List Value := (zst1 L i v).set (i + 1) zx
theorem zst1_at (v : Value) : ∀ (L : List Value) (i j : Nat) (w : Value), (zst1 L i v)[j]? = some w → zok w = true → (j = i ∧ w = v) ∨ (j ≠ i ∧ L[j]? = some w ∧ (j + 1 = i → w.category = 1))
  | [], i, j, w, h, _ => by
    cases i <;> simp [zst1] at h
  | a :: t, 0, j, w, h, _ => by
    cases j with
    | zero => simp [zst1] at h; exact Or.inl ⟨rfl, h.symm⟩
    | succ j => simp [zst1] at h; exact Or.inr ⟨by omega, by simpa using h, by omega⟩
  | a :: t, 1, j, w, h, hz => by
    cases j with
    | zero =>
      refine Or.inr ⟨by omega, ?_⟩
      cases a <;> simp [zst1] at h <;> subst h <;> first | (simp [zok] at hz; done) | simp [Value.category]
    | succ j =>
      have h' : (zst1 t 0 v)[j]? = some w := by
        simpa [zst1] using h
      rcases zst1_at v t 0 j w h' hz with ⟨e1, e2⟩ | ⟨e1, e2, e3⟩
      · exact Or.inl ⟨by omega, e2⟩
      · exact Or.inr ⟨by omega, by simpa using e2, fun q => by omega⟩
  | a :: t, i + 2, j, w, h, hz => by
    cases j with
    | zero => simp [zst1] at h; exact Or.inr ⟨by omega, by simpa using h, by omega⟩
    | succ j =>
      have h' : (zst1 t (i + 1) v)[j]? = some w := by simpa [zst1] using h
      rcases zst1_at v t (i + 1) j w h' hz with ⟨e1, e2⟩ | ⟨e1, e2, e3⟩
      · exact Or.inl ⟨by omega, e2⟩
      · exact Or.inr ⟨by omega, by simpa using e2, fun q => e3 (by omega)⟩
theorem zst2_at (v : Value) (L : List Value) (i j : Nat) (w : Value) (h : (zst2 L i v)[j]? = some w) (hz : zok w = true) : (j = i ∧ w = v) ∨ (j ≠ i ∧ j ≠ i + 1 ∧ L[j]? = some w ∧ (j + 1 = i → w.category = 1)) := by
  unfold zst2 at h
  by_cases hj : j = i + 1
  · subst hj
    by_cases hl : i + 1 < (zst1 L i v).length
    · rw [List.getElem?_set_self hl] at h
      cases h
      simp [zok] at hz
    · rw [List.getElem?_eq_none (by rw [List.length_set]; omega)] at h
      cases h
  · rw [List.getElem?_set_ne (fun q => hj q.symm)] at h
    rcases zst1_at v L i j w h hz with ⟨e1, e2⟩ | ⟨e1, e2, e3⟩
    · exact Or.inl ⟨e1, e2⟩
    · exact Or.inr ⟨e1, hj, e2, e3⟩
/-! the words: those of lw_tbl that last -/
def zT : List Cond := lw_tbl.filter goodWord
theorem zT_in (i : Nat) {w : Cond} (h : lw_tbl[i]? = some w) (hg : goodWord w = true) : w ∈ zT := List.mem_filter.mpr ⟨List.mem_of_getElem? h, hg⟩
theorem zTb0 {w : Cond} (h : w ∈ k2_sels lw_privs) : w ∈ lw_tbl := List.mem_append_left _ h
theorem zTb1 {w : Cond} (h : w ∈ tables_1_1) : w ∈ lw_tbl := List.mem_append_right _ (List.mem_append_left _ h)
theorem zTb2 {w : Cond} (h : w ∈ tables_1_2) : w ∈ lw_tbl := List.mem_append_right _ (List.mem_append_right _ (List.mem_append_left _ h))
theorem zTb3 {w : Cond} (h : w ∈ tables_1_3) : w ∈ lw_tbl := List.mem_append_right _ (List.mem_append_right _ (List.mem_append_right _ (List.mem_append_left _ h)))
theorem zTb4 {w : Cond} (h : w ∈ tables_1_4) : w ∈ lw_tbl := List.mem_append_right _ (List.mem_append_right _ (List.mem_append_right _ (List.mem_append_right _ (List.mem_append_left _ h))))
theorem zTb5 {w : Cond} (h : w ∈ tables_1_5) : w ∈ lw_tbl := List.mem_append_right _ (List.mem_append_right _ (List.mem_append_right _ (List.mem_append_right _ (List.mem_append_right _ h))))
theorem zT_i0 (i : Nat) {w : Cond} (h : (k2_sels lw_privs)[i]? = some w) (hg : goodWord w = true) : w ∈ zT := List.mem_filter.mpr ⟨zTb0 (List.mem_of_getElem? h), hg⟩
theorem zT_i1 (i : Nat) {w : Cond} (h : tables_1_1[i]? = some w) (hg : goodWord w = true) : w ∈ zT := List.mem_filter.mpr ⟨zTb1 (List.mem_of_getElem? h), hg⟩
theorem zT_i2 (i : Nat) {w : Cond} (h : tables_1_2[i]? = some w) (hg : goodWord w = true) : w ∈ zT := List.mem_filter.mpr ⟨zTb2 (List.mem_of_getElem? h), hg⟩
theorem zT_i3 (i : Nat) {w : Cond} (h : tables_1_3[i]? = some w) (hg : goodWord w = true) : w ∈ zT := List.mem_filter.mpr ⟨zTb3 (List.mem_of_getElem? h), hg⟩
theorem zT_i4 (i : Nat) {w : Cond} (h : tables_1_4[i]? = some w) (hg : goodWord w = true) : w ∈ zT := List.mem_filter.mpr ⟨zTb4 (List.mem_of_getElem? h), hg⟩
theorem zT_i5 (i : Nat) {w : Cond} (h : tables_1_5[i]? = some w) (hg : goodWord w = true) : w ∈ zT := List.mem_filter.mpr ⟨zTb5 (List.mem_of_getElem? h), hg⟩
theorem zT_good {y : MethodName} {cc : ByteArray} {nL : Nat} {ret : Option FieldType} (h : Cond.code y cc nL ret ∈ zT) : GoodIn zT (.code y cc nL ret :: zT) := by
  intro w hw
  have h1 : w ∈ zT := by
    rcases List.mem_cons.mp hw with rfl | q
    · exact h
    · exact q
  exact ⟨h1, good_of_word (List.mem_filter.mp h1).2⟩
/-- the words on private members of nest mates -/
def zNw : Cond → Bool
  | .fieldLinkNest _ _ _ _ _ _ => true
  | .methodLinkNest _ _ _ _ => true
  | _ => false
def zTN : List Cond := lw_tbl.filter zNw
theorem zTN_in (i : Nat) {w : Cond} (h : lw_tbl[i]? = some w) (hg : zNw w = true) : w ∈ zTN := List.mem_filter.mpr ⟨List.mem_of_getElem? h, hg⟩
theorem zTN_i1 (i : Nat) {w : Cond} (h : tables_1_1[i]? = some w) (hg : zNw w = true) : w ∈ zTN := List.mem_filter.mpr ⟨zTb1 (List.mem_of_getElem? h), hg⟩
theorem zTN_i2 (i : Nat) {w : Cond} (h : tables_1_2[i]? = some w) (hg : zNw w = true) : w ∈ zTN := List.mem_filter.mpr ⟨zTb2 (List.mem_of_getElem? h), hg⟩
theorem zTN_i3 (i : Nat) {w : Cond} (h : tables_1_3[i]? = some w) (hg : zNw w = true) : w ∈ zTN := List.mem_filter.mpr ⟨zTb3 (List.mem_of_getElem? h), hg⟩
theorem zTN_i4 (i : Nat) {w : Cond} (h : tables_1_4[i]? = some w) (hg : zNw w = true) : w ∈ zTN := List.mem_filter.mpr ⟨zTb4 (List.mem_of_getElem? h), hg⟩
theorem zTN_i5 (i : Nat) {w : Cond} (h : tables_1_5[i]? = some w) (hg : zNw w = true) : w ∈ zTN := List.mem_filter.mpr ⟨zTb5 (List.mem_of_getElem? h), hg⟩
def zStI (k : Nat) : Nat := [49, 58, 63, 68, 73, 110].getD k 0
def zStT (k : Nat) : String := ["place", "near", "law", "start", "word", "plain"].getD k ""
def zNst (G : zG) (U : State) : Prop := (∀ w ∈ zTN, va_Nw w U) ∧ ∀ k, k < 6 → vk_R RX4 (zStI k) (zStT k) (zad G (1000 + k)) U
theorem zNst.warm {G : zG} {s U : State} (hW : s.WarmedH U.vm) (h : zNst G s) : zNst G U := by
  refine ⟨fun w hw => ?_, fun k hk => vk_R.warm hW (h.2 k hk)⟩
  have h1 := h.1 w hw
  have h2 := (List.mem_filter.mp hw).2
  cases w <;> first | exact va_Nw.warmF hW h1 | exact va_Nw.warmM hW h1 | (simp [zNw] at h2)
theorem zNst.same {G : zG} {s U : State} (hv : s.vm = U.vm) (h : zNst G s) : zNst G U := by
  refine ⟨fun w hw => ?_, fun k hk => vk_R.same hv.symm (h.2 k hk)⟩
  have h1 := h.1 w hw
  have h2 := (List.mem_filter.mp hw).2
  cases w <;> first | exact va_Nw.same rfl hv h1 | (simp [zNw] at h2)
theorem zNst.use {G : zG} {s : State} {args : Array Value} (h : zNst G s) {w : Cond} (hw : w ∈ zTN) : w.before args s = true := by
  have h1 := h.1 w hw
  have h2 := (List.mem_filter.mp hw).2
  cases w <;> first | exact va_Nw.use rfl h1 | (simp [zNw] at h2)
/-! what lies outside: the script, the String constants, two statics of the JDK -/
def zStrN : Nat := 6
def zLenS : List Nat := [5, 4, 3, 5, 4, 5]
def zBytS : List (List Int32) := [[112, 108, 97, 99, 101], [110, 101, 97, 114], [108, 97, 119], [115, 116, 97, 114, 116], [119, 111, 114, 100], [112, 108, 97, 105, 110]]
/-- arrays of int[]: their class -/
def zAA (U : State) : Prop := (Cond.arrayOver (.array .int)).before #[] U = true
theorem zAA.moved {u U : State} (hvm : u.vm.Alike U.vm) (h : zAA u) : zAA U := by
  have hidx : ∀ comp : ClassId, (U.vm.classes.findIdx? fun (x : Class) => match x.kind with | .array component _ => component == comp | _ => false) = (u.vm.classes.findIdx? fun (x : Class) => match x.kind with | .array component _ => component == comp | _ => false) := fun comp => by
    refine (va_idx_bare U.vm comp).symm.trans (Eq.trans ?_ (va_idx_bare u.vm comp))
    first | rw [hvm.bare_eq] | rw [← hvm.bare_eq]
  unfold zAA Cond.before Cond.holds at h ⊢
  simp only [Cond.value] at h ⊢
  rw [hvm.findClass]
  cases hc : u.vm.findClass (FieldType.array .int).toString with
  | none => rw [hc] at h; simp at h
  | some comp =>
    rw [hc] at h
    rw [Option.bind_some] at h ⊢
    refine (congrArg (fun o : Option Nat => (o.bind (fun c => (U.vm.classes[c]?).map fun (k : Class) => match k.kind with | .array _ ty => decide (ty = FieldType.array .int) && decide (U.vm.findClass ("[" ++ (FieldType.array .int).toString) = some c) | _ => false) == some true)) (hidx comp)).trans ?_
    refine Eq.trans ?_ h
    refine congrArg (fun f : Nat → Option Bool => ((u.vm.classes.findIdx? fun (x : Class) => match x.kind with | .array component _ => component == comp | _ => false).bind f == some true)) (funext fun c => ?_)
    cases hk : u.vm.classes[c]? with
    | none =>
      cases hk2 : U.vm.classes[c]? with
      | none => rfl
      | some k2 =>
        have hs : u.vm.classes.size = U.vm.classes.size := by
          have := congrArg (fun v : Vm => v.classes.size) hvm.bare_eq
          simpa [Vm.bare] using this.symm
        have h1 := (Array.getElem?_eq_some_iff.mp hk2).1
        have h2 : u.vm.classes.size ≤ c := by simpa using hk
        omega
    | some k =>
      obtain ⟨k', hk', he⟩ := hvm.2.2 _ _ hk
      rw [hk']
      rw [he, hvm.findClass]
      rfl
def zSio (G : zG) (U : State) (H : Heap) : Prop := va_Z "jdk/internal/util/Preconditions" "SIOOBE_FORMATTER" "Ljava/util/function/BiFunction;" .null (zA G) U H ∨ va_Z "jdk/internal/util/Preconditions" "SIOOBE_FORMATTER" "Ljava/util/function/BiFunction;" (.ref (zad G 3001)) (zA G) U H
theorem zSio.moved {G : zG} {u U : State} {H : Heap} (hvm : u.vm.Alike U.vm) (h : zSio G u H) : zSio G U H := by
  rcases h with h | h
  · exact Or.inl (va_Z.moved hvm h)
  · exact Or.inr (va_Z.moved hvm h)
theorem zSio.kept {G : zG} {U : State} {H H1 : Heap} (h : zSio G U H) (hq : ∀ a : Nat, a < H.size → ¬ zA G a → H1[a]? = H[a]?) : zSio G U H1 := by
  rcases h with h | h
  · exact Or.inl (h.kept hq)
  · exact Or.inr (h.kept hq)
def zOut (G : zG) (U : State) (H : Heap) : Prop :=
  va_X G.2.2.2.2.2.1 G.2.2.2.2.2.2.1 G.2.2.2.2.2.2.2 U H ∧ ¬ zA G G.2.2.2.2.2.1 ∧ G.2.2.2.2.2.1 < H.size ∧
  vk_S zStrN zLenS zBytS (fun k => zad G (1000 + k)) (fun k => zad G (2000 + k)) (zA G) U H ∧
  va_Z "java/lang/String" "COMPACT_STRINGS" "Z" (.int 1) (zA G) U H ∧
  zSio G U H ∧
  va_AO RX2 U ∧ va_AO RX3 U ∧ zAA U
theorem zOut.moved {G : zG} {u U : State} {H : Heap} (hvm : u.vm.Alike U.vm) (h : zOut G u H) : zOut G U H := by
  obtain ⟨h1, h2, h3, h4, h5, h6, h7, h8, h9⟩ := h
  exact ⟨h1.moved hvm, h2, h3, h4.moved hvm, h5.moved hvm, h6.moved hvm, h7.moved hvm, h8.moved hvm, h9.moved hvm⟩
theorem zOut.kept {G : zG} {U : State} {H H1 : Heap} (h : zOut G U H) (hz : H.size ≤ H1.size) (hq : ∀ a : Nat, a < H.size → ¬ zA G a → H1[a]? = H[a]?) : zOut G U H1 := by
  obtain ⟨h1, h2, h3, h4, h5, h6, h7⟩ := h
  exact ⟨h1.kept (hq _ h3 h2), h2, Nat.lt_of_lt_of_le h3 hz, h4.kept hq, h5.kept hq, h6.kept hq, h7⟩
/-! THE JUDGEMENT: from the configuration (pc, locals L, operands st, cells n, contents mi ml mr) of the method (own class, name, code, locals' words, answer's type) the machine comes to QQ -/
def zCx (G : zG) (own mn : String) (cc : ByteArray) (nL : Nat) (ret : Option FieldType) (n0 : Nat) (p : Program) (s : State) (m : MethodId) (args : Array Value) (meth : Method) (c : Code) : Prop :=
  p.tables.exec = Jvm.exec ∧ c.code = cc ∧ meth.sig.returnType = ret ∧ c.maxLocals = nL ∧ s.vm.findClass own = some m.cls ∧ (∀ w ∈ zT, w.before args s = true) ∧ meth.locks = false ∧ meth.name = mn ∧ s.heap.size = G.2.2.2.2.1 + n0 ∧ (∀ r, r < 1000 → zad G r = G.2.2.2.2.1 + r) ∧ zNst G s ∧ zOut G s s.heap
def zRl (G : zG) (n : Nat) (mi : zFi) (ml : zFl) (mr : zFr) (s : State) (H : Heap) (locs : List Loc) : Prop :=
  va_S (zA G) s.heap H locs ∧ va_P G.2.1 vwCl (zWs G n mi ml mr) H ∧ va_D (zA G) (zWs G n mi ml mr) ∧ va_K G.2.1 vwCl (zTys G) s ∧ zFresh n mi ml mr
abbrev zQQ : Type := List Frame → Array Value → State → State → Prop
def zE (G : zG) (R : Room) (QQ : zQQ) (own mn : String) (cc : ByteArray) (nL : Nat) (ret : Option FieldType) (n0 pc : Nat) (L st : List Value) (n : Nat) (mi : zFi) (ml : zFl) (mr : zFr) : Prop :=
  ∀ (p : Program) (e : Env) (s : State) (m : MethodId) (args : Array Value) (below : List Frame) (meth : Method) (c : Code) (H : Heap) (locs : List Loc) (ls : Array Slot),
    zCx G own mn cc nL ret n0 p s m args meth c → zRl G n mi ml mr s H locs → zLs (zad G) ls nL L → n0 ≤ n →
    W p G.1 e R s m args below meth c H locs (n - n0) (zSl n - zSl n0) (QQ below args s) (F0 m pc ls (st.map (zTv (zad G))))
