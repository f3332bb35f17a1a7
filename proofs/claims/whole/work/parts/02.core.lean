/-! A derived logic: 'E' speaks of one frame over an abstract heap (shape g, pointers P, ints I); the machine's own matters stay inside its definition. -/
/-- what stays the same in a whole run: launch, slots of the classes, array classes, addresses of what lay there before, the heap of the start, the script -/
abbrev GE : Type := Launch × va_G × (Nat → ClassId) × (Nat → Nat) × Heap × (Nat → Int32) × Nat
abbrev gl (Γ : GE) : Launch := Γ.1
abbrev gD (Γ : GE) : va_G := Γ.2.1
abbrev gc (Γ : GE) : Nat → ClassId := Γ.2.2.1
abbrev gx (Γ : GE) : Nat → Nat := Γ.2.2.2.1
abbrev gH (Γ : GE) : Heap := Γ.2.2.2.2.1
abbrev gs (Γ : GE) : Nat → Int32 := Γ.2.2.2.2.2.1
abbrev gn (Γ : GE) : Nat := Γ.2.2.2.2.2.2
/-- an abstract address as the machine has it: below 16 what lay there before -/
def ad (Γ : GE) (a : Nat) : Nat := if a < 16 then gx Γ a else (gH Γ).size + (a - 16)
def cv (Γ : GE) (v : Value) : Value := match v with
  | .ref a => .ref (ad Γ a)
  | w => w
abbrev gA (Γ : GE) : Nat → Prop := fun q => (gH Γ).size ≤ q
/-- the shape: one past the last address; each cell's kind (0 to 12 a class, 13 int[], 14 boolean[], 15 Row[], 16 Ride[], 17 String[]); an array's length -/
abbrev Sh : Type := Nat × (Nat → Nat) × (Nat → Nat)
abbrev HI : Type := Nat → Nat → Int32
abbrev HP : Type := Nat → Nat → Option Nat
def ur {α : Type} (f : Nat → α) (a : Nat) (r : α) : Nat → α := fun b => if b = a then r else f b
def u2 {α : Type} (f : Nat → Nat → α) (a k : Nat) (v : α) : Nat → Nat → α := ur f a (ur (f a) k v)
theorem ur_s {α : Type} (f : Nat → α) (a : Nat) (r : α) : ur f a r a = r := if_pos rfl
theorem ur_n {α : Type} (f : Nat → α) {a b : Nat} (r : α) (h : b ≠ a) : ur f a r b = f b := if_neg h
def fty : List (Nat → FieldType) := [tyX0, tyX1, tyX2, tyX3, tyX4, tyX5, tyX6, tyX7, tyX8, tyX9, tyX10, tyX11, tyX12]
def nfs : List Nat := [5, 5, 5, 5, 5, 5, 5, 2, 18, 5, 1, 13, 27]
def tyof (c j : Nat) : FieldType := (fty.getD c (fun _ => .int)) j
def fint (c j : Nat) : Bool := match tyof c j with
  | .int => true
  | .boolean => true
  | _ => false
def nf (c : Nat) : Nat := nfs.getD c 0
def fv (Γ : GE) (P : HP) (I : HI) (a c j : Nat) : Value := if fint c j = true then .int (I a j) else va_rf ((P a j).map (ad Γ))
def flds (Γ : GE) (P : HP) (I : HI) (a c : Nat) : List Value := (List.range (nf c)).map (fv Γ P I a c)
def el (Γ : GE) (g : Sh) (P : HP) (I : HI) (a : Nat) : va_E :=
  if g.2.1 a < 13 then .inr (g.2.1 a, flds Γ P I a (g.2.1 a))
  else if g.2.1 a < 15 then .inl (gc Γ (g.2.1 a - 13), g.2.2 a, .inl (I a))
  else .inl (gc Γ (g.2.1 a - 13), g.2.2 a, .inr (.inr (.inr (.inr (fun j => (P a j).map (ad Γ))))))
def wl (Γ : GE) (g : Sh) (P : HP) (I : HI) : va_W := (List.range (g.1 - 16)).map (fun k => ((gH Γ).size + k, el Γ g P I (16 + k)))
abbrev tys (Γ : GE) : List (ClassId × FieldType) := [(gc Γ 0, .int), (gc Γ 1, .boolean), (gc Γ 2, .object "GorgeWire$Row"), (gc Γ 3, .object "GorgeWire$Ride"), (gc Γ 4, .object "java/lang/String")]
def Wd (Γ : GE) (g : Sh) (P : HP) (I : HI) (H : Heap) : Prop := H.size = (gH Γ).size + (g.1 - 16) ∧ (∀ q : Nat, q < (gH Γ).size → H[q]? = (gH Γ)[q]?) ∧ va_P (gD Γ) vwCl (wl Γ g P I) H
theorem ad_16 (Γ : GE) {a : Nat} (h : 16 ≤ a) : ad Γ a = (gH Γ).size + (a - 16) := if_neg (by omega)
theorem wl_get {Γ : GE} {g : Sh} {P : HP} {I : HI} {a : Nat} (h : 16 ≤ a) (h2 : a < g.1) : (wl Γ g P I)[a - 16]? = some (ad Γ a, el Γ g P I a) := by
  have e : 16 + (a - 16) = a := by omega
  have h3 : a - 16 < g.1 - 16 := by omega
  rw [ad_16 Γ h]
  simp [wl, h3, e]
theorem wl_len {Γ : GE} {g : Sh} {P : HP} {I : HI} : (wl Γ g P I).length = g.1 - 16 := by simp [wl]
theorem wl_at {Γ : GE} {g : Sh} {P : HP} {I : HI} {k : Nat} {q : Nat × va_E} (h : (wl Γ g P I)[k]? = some q) : k < g.1 - 16 ∧ q = ((gH Γ).size + k, el Γ g P I (16 + k)) := by
  have hk : k < g.1 - 16 := by
    have := (List.getElem?_eq_some_iff.mp h).1
    rwa [wl_len] at this
  refine ⟨hk, ?_⟩
  simp [wl, hk] at h
  exact h.symm
theorem wl_D {Γ : GE} {g : Sh} {P : HP} {I : HI} : va_D (gA Γ) (wl Γ g P I) := by
  refine ⟨fun i j p q hi hj hpq => ?_, fun k q hk => ?_⟩
  · have h1 := (wl_at hi).2
    have h2 := (wl_at hj).2
    subst h1; subst h2
    simp at hpq
    exact hpq
  · have h1 := (wl_at hk).2
    subst h1
    exact Nat.le_add_right _ _
/-- one cell changed -/
theorem wl_set {Γ : GE} {g : Sh} {P P' : HP} {I I' : HI} {a : Nat} (h : 16 ≤ a) (h2 : a < g.1) (hn : ∀ b, b ≠ a → el Γ g P' I' b = el Γ g P I b) {e : va_E} (he : e = el Γ g P' I' a) : (wl Γ g P I).set (a - 16) (ad Γ a, e) = wl Γ g P' I' := by
  subst he
  apply List.ext_getElem?
  intro k
  by_cases hk : k = a - 16
  · subst hk
    rw [List.getElem?_set_self (by rw [wl_len]; omega), wl_get h h2]
  · rw [List.getElem?_set_ne (fun q => hk q.symm)]
    by_cases hl : k < g.1 - 16
    · simp [wl, hl]
      exact (hn _ (by omega)).symm
    · have h3 : (wl Γ g P I)[k]? = none := by rw [List.getElem?_eq_none_iff, wl_len]; omega
      have h4 : (wl Γ g P' I')[k]? = none := by rw [List.getElem?_eq_none_iff, wl_len]; omega
      rw [h3, h4]
/-- a cell made -/
theorem wl_new {Γ : GE} {g g' : Sh} {P P' : HP} {I I' : HI} (h : 16 ≤ g.1) (hg : g'.1 = g.1 + 1) (hn : ∀ b, b < g.1 → el Γ g' P' I' b = el Γ g P I b) {e : va_E} (he : e = el Γ g' P' I' g.1) : wl Γ g P I ++ [(ad Γ g.1, e)] = wl Γ g' P' I' := by
  subst he
  apply List.ext_getElem?
  intro k
  by_cases hl : k < g.1 - 16
  · rw [List.getElem?_append_left (by rw [wl_len]; exact hl)]
    have h2 : k < g'.1 - 16 := by omega
    simp [wl, hl, h2]
    exact (hn _ (by omega)).symm
  · rw [List.getElem?_append_right (by rw [wl_len]; omega), wl_len]
    by_cases hk : k = g.1 - 16
    · subst hk
      have h2 : g.1 - 16 < g'.1 - 16 := by omega
      have h3 : 16 + (g.1 - 16) = g.1 := by omega
      rw [ad_16 Γ h]
      simp [wl, h2, h3]
    · have h4 : (wl Γ g' P' I')[k]? = none := by rw [List.getElem?_eq_none_iff, wl_len]; omega
      rw [h4, List.getElem?_eq_none_iff]
      simp
      omega
/-- the locals: what is listed is held -/
def lvOK (Γ : GE) (ls : Array Slot) (nL : Nat) (lv : List (Option Value)) : Prop := ls.size = nL ∧ lv_wf ls ∧ ∀ (i : Nat) (v : Value), lv[i]? = some (some v) → ls[i]? = some (.val (cv Γ v))
theorem cv_cat (Γ : GE) (v : Value) : (cv Γ v).category = v.category := by cases v <;> rfl
theorem lv_has.mk {Γ : GE} {ls : Array Slot} {nL : Nat} {lv : List (Option Value)} (h : lvOK Γ ls nL lv) (l : List (Nat × Value)) (hl : ∀ q ∈ l, ∃ v, lv[q.1]? = some (some v) ∧ q.2 = cv Γ v) : lv_has ls nL l := by
  refine ⟨h.1, h.2.1, fun q hq => ?_⟩
  obtain ⟨v, h1, h2⟩ := hl q hq
  rw [h2]
  exact h.2.2 _ _ h1
/-- all that is listed -/
def lvL (Γ : GE) (lv : List (Option Value)) : List (Nat × Value) := (List.range lv.length).filterMap (fun i => match lv[i]? with
  | some (some v) => some (i, cv Γ v)
  | _ => none)
theorem lvL_mem {Γ : GE} {lv : List (Option Value)} {q : Nat × Value} : q ∈ lvL Γ lv ↔ ∃ v, lv[q.1]? = some (some v) ∧ q.2 = cv Γ v := by
  obtain ⟨i, w⟩ := q
  unfold lvL
  rw [List.mem_filterMap]
  constructor
  · rintro ⟨j, hj, h⟩
    split at h
    next v hv =>
      cases h
      exact ⟨v, hv, rfl⟩
    next => cases h
  · rintro ⟨v, hv, hw⟩
    refine ⟨i, ?_, ?_⟩
    · rw [List.mem_range]
      exact (List.getElem?_eq_some_iff.mp hv).1
    · dsimp only at hv hw
      rw [hv]
      simp [hw]
theorem lvOK.has {Γ : GE} {ls : Array Slot} {nL : Nat} {lv : List (Option Value)} (h : lvOK Γ ls nL lv) : lv_has ls nL (lvL Γ lv) := lv_has.mk h _ (fun _ hq => lvL_mem.mp hq)
/-- a long whose second half is written over is gone -/
def cut (lv : List (Option Value)) (i : Nat) : List (Option Value) := match i with
  | 0 => lv
  | j + 1 => match lv[j]? with
    | some (some w) => if w.category = 2 then lv.set j none else lv
    | _ => lv
/-- what is listed behind a store of a value of one slot, of two -/
def sto1 (lv : List (Option Value)) (i : Nat) (v : Value) : List (Option Value) := (cut lv i).set i (some v)
def sto2 (lv : List (Option Value)) (i : Nat) (v : Value) : List (Option Value) := ((cut lv i).set i (some v)).set (i + 1) none
theorem cut_at {lv : List (Option Value)} {i j : Nat} {w : Value} (h : (cut lv i)[j]? = some (some w)) : lv[j]? = some (some w) ∧ ¬ (j + 1 = i ∧ w.category = 2) := by
  unfold cut at h
  split at h
  next => exact ⟨h, by omega⟩
  next i k =>
    split at h
    next z hz =>
      split at h
      next hc =>
        by_cases hj : j = k
        · subst hj
          rw [List.getElem?_set] at h
          split at h
          · split at h <;> simp at h
          · exact absurd rfl (by assumption)
        · rw [List.getElem?_set_ne (fun q => hj q.symm)] at h
          exact ⟨h, by omega⟩
      next hc =>
        refine ⟨h, fun ⟨q1, q2⟩ => ?_⟩
        have : j = k := by omega
        subst this
        rw [hz] at h
        cases h
        exact hc q2
    next hn =>
      refine ⟨h, fun ⟨q1, q2⟩ => ?_⟩
      have : j = k := by omega
      subst this
      exact hn _ h
theorem lvOK_st1 {Γ : GE} {ls' : Array Slot} {nL : Nat} {lv : List (Option Value)} {i : Nat} {v w : Value} (hw : w = cv Γ v) (h : lv_has ls' nL ((i, w) :: (lvL Γ lv).filter (fun q => !(q.1 == i) && !(q.1 + 1 == i && q.2.category == 2)))) : lvOK Γ ls' nL (sto1 lv i v) := by
  subst hw
  refine ⟨h.1, h.2.1, fun j u hj => ?_⟩
  unfold sto1 at hj
  by_cases e : j = i
  · subst e
    rw [List.getElem?_set] at hj
    simp only [if_true] at hj
    split at hj
    · cases hj
      exact h.2.2 (j, cv Γ v) List.mem_cons_self
    · cases hj
  · rw [List.getElem?_set_ne (fun q => e q.symm)] at hj
    obtain ⟨h1, h2⟩ := cut_at hj
    refine h.2.2 (j, cv Γ u) (List.mem_cons_of_mem _ (List.mem_filter.mpr ⟨lvL_mem.mpr ⟨u, h1, rfl⟩, ?_⟩))
    simp only [cv_cat, Bool.and_eq_true, Bool.not_eq_true', beq_eq_false_iff_ne, ne_eq, Bool.and_eq_false_iff]
    refine ⟨e, ?_⟩
    by_cases e2 : j + 1 = i
    · exact Or.inr (fun q => h2 ⟨e2, q⟩)
    · exact Or.inl e2
theorem lvOK_st2 {Γ : GE} {ls' : Array Slot} {nL : Nat} {lv : List (Option Value)} {i : Nat} {v w : Value} (hw : w = cv Γ v) (h : lv_has ls' nL ((i, w) :: (lvL Γ lv).filter (fun q => !(q.1 == i) && (!(q.1 == i + 1) && !(q.1 + 1 == i && q.2.category == 2))))) : lvOK Γ ls' nL (sto2 lv i v) := by
  subst hw
  refine ⟨h.1, h.2.1, fun j u hj => ?_⟩
  unfold sto2 at hj
  by_cases e3 : j = i + 1
  · subst e3
    rw [List.getElem?_set] at hj
    split at hj
    · split at hj <;> simp at hj
    · exact absurd rfl (by assumption)
  rw [List.getElem?_set_ne (fun q => e3 q.symm)] at hj
  by_cases e : j = i
  · subst e
    rw [List.getElem?_set] at hj
    simp only [if_true] at hj
    split at hj
    · cases hj
      exact h.2.2 (j, cv Γ v) List.mem_cons_self
    · cases hj
  · rw [List.getElem?_set_ne (fun q => e q.symm)] at hj
    obtain ⟨h1, h2⟩ := cut_at hj
    refine h.2.2 (j, cv Γ u) (List.mem_cons_of_mem _ (List.mem_filter.mpr ⟨lvL_mem.mpr ⟨u, h1, rfl⟩, ?_⟩))
    simp only [cv_cat, Bool.and_eq_true, Bool.not_eq_true', beq_eq_false_iff_ne, ne_eq, Bool.and_eq_false_iff]
    refine ⟨e, e3, ?_⟩
    by_cases e2 : j + 1 = i
    · exact Or.inr (fun q => h2 ⟨e2, q⟩)
    · exact Or.inl e2
