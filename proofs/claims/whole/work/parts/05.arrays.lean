/-! arrays, new cells, what lies outside -/
theorem ty_0 (Γ : GE) : (tys Γ)[0]? = some (gc Γ 0, .int) := rfl
theorem ty_1 (Γ : GE) : (tys Γ)[1]? = some (gc Γ 1, .boolean) := rfl
theorem locs_in {Γ : GE} {locs : List Loc} {a k : Nat} (h3 : ∀ q ∈ locs, (gH Γ).size ≤ q.base) (ha : 16 ≤ a) : ∀ q ∈ locs ++ [(⟨ad Γ a, k⟩ : Loc)], (gH Γ).size ≤ q.base := by
  intro q hq
  rcases List.mem_append.mp hq with hq | hq
  · exact h3 q hq
  · rw [List.mem_singleton.mp hq]
    show _ ≤ ad Γ a
    rw [ad_16 Γ ha]
    exact Nat.le_add_right _ _
theorem updV_i (f : Nat → Int32) (k : Nat) (x : Int32) : updV (fun j => Value.int (f j)) k (.int x) = fun j => .int (ur f k x j) := by
  funext j
  unfold updV ur
  split <;> rfl
theorem updV_r (Γ : GE) (f : Nat → Option Nat) (k : Nat) (x : Option Nat) : updV (fun j => va_rf ((f j).map (ad Γ))) k (va_rf (x.map (ad Γ))) = fun j => va_rf ((ur f k x j).map (ad Γ)) := by
  funext j
  unfold updV ur
  split <;> rfl
theorem u2_row {α : Type} (f : Nat → Nat → α) (a k : Nat) (v : α) : u2 f a k v a = ur (f a) k v := ur_s _ _ _
theorem u2_oth {α : Type} (f : Nat → Nat → α) {a k b : Nat} {v : α} (h : b ≠ a) : u2 f a k v b = f b := ur_n _ _ h
def okTy (t : FieldType) : Bool := match t with
  | .int => true
  | .boolean => true
  | .object _ => true
  | .array _ => true
  | _ => false
theorem ok_ty : ∀ c, c < 13 → ∀ k, k < nf c → okTy (tyof c k) = true := by decide
section Rules
variable {Γ : GE} {μ : MD} {d mc ms rc rs pc : Nat} {QQ : List Frame → Array Value → State → State → Prop} {lv : List (Option Value)} {st : List Value} {g : Sh} {P : HP} {I : HI}
theorem E_iald {a : Nat} {i : Int32} (hd : decode μ.2.1 pc = .ok (.iaload, 1)) (hk : g.2.1 a = 13) (ha : 16 ≤ a) (h2 : a < g.1) (hin : vp_in i (g.2.2 a))
    (kk : E Γ μ d mc ms QQ rc rs (pc + 1) lv (.int (I a i.toNatClampNeg) :: st) g P I) : E Γ μ d mc ms QQ rc rs pc lv (.int i :: .ref a :: st) g P I := by
  intro p e R s m args below meth c C H locs cells slots ls h1 h2' h3 hl hw hs
  exact va_iald C.1 C.2.1 C.K hw.2.2 (a - 16) 0 (by rw [wl_get ha h2, el_i hk]) (ty_0 Γ) hin hd (kk p e R s m args below meth c C H locs cells slots ls h1 h2' h3 hl hw hs)
theorem E_zald {a : Nat} {i : Int32} (hd : decode μ.2.1 pc = .ok (.baload, 1)) (hk : g.2.1 a = 14) (ha : 16 ≤ a) (h2 : a < g.1) (hin : vp_in i (g.2.2 a))
    (kk : E Γ μ d mc ms QQ rc rs (pc + 1) lv (.int (I a i.toNatClampNeg) :: st) g P I) : E Γ μ d mc ms QQ rc rs pc lv (.int i :: .ref a :: st) g P I := by
  intro p e R s m args below meth c C H locs cells slots ls h1 h2' h3 hl hw hs
  exact va_zald C.1 C.2.1 C.K hw.2.2 (a - 16) 1 (by rw [wl_get ha h2, el_z hk]) (ty_1 Γ) hin hd (kk p e R s m args below meth c C H locs cells slots ls h1 h2' h3 hl hw hs)
theorem E_ilen {a : Nat} (hd : decode μ.2.1 pc = .ok (.arraylength, 1)) (hk : g.2.1 a = 13) (ha : 16 ≤ a) (h2 : a < g.1)
    (kk : E Γ μ d mc ms QQ rc rs (pc + 1) lv (.int (nI (g.2.2 a)) :: st) g P I) : E Γ μ d mc ms QQ rc rs pc lv (.ref a :: st) g P I := by
  intro p e R s m args below meth c C H locs cells slots ls h1 h2' h3 hl hw hs
  exact va_alen (x := (g.2.2 a, .inl (I a))) C.1 C.2.1 C.K hw.2.2 (a - 16) 0 (by rw [wl_get ha h2, el_i hk]) (ty_0 Γ) (v := nI (g.2.2 a)) rfl hd (kk p e R s m args below meth c C H locs cells slots ls h1 h2' h3 hl hw hs)
theorem E_iast {a : Nat} {i x : Int32} (hd : decode μ.2.1 pc = .ok (.iastore, 1)) (hk : g.2.1 a = 13) (ha : 16 ≤ a) (h2 : a < g.1) (hin : vp_in i (g.2.2 a))
    (kk : E Γ μ d mc ms QQ rc rs (pc + 1) lv st g P (u2 I a i.toNatClampNeg x)) : E Γ μ d mc ms QQ rc rs pc lv (.int x :: .int i :: .ref a :: st) g P I := by
  intro p e R s m args below meth c C H locs cells slots ls h1 h2' h3 hl hw hs
  have hat := Wd_at hw ha h2
  rw [el_i hk] at hat
  refine W.iast C.1 C.2.1 hat ((C.K.2 0 _ (ty_0 Γ)).1 _ _) (fun q => by cases q) (by show ¬ (i < 0 ∨ (arrV _ _ _).slots.size ≤ _); rw [arrV_size]; exact hin) rfl rfl hd fun H1 e1 z oq => ?_
  refine kk p e R s m args below meth c C H1 _ cells slots ls h1 h2' (locs_in h3 ha) hl (Wd_set hw ha z oq ?_ (fun b hb => ⟨rfl, u2_oth I hb⟩)) (by rw [z]; exact hs)
  rw [el_i hk]
  show H1[ad Γ a]? = some (vp_cell _ _)
  rw [e1, vp_cell_i, vp_cell_i, arrV_store, updV_i, u2_row]
theorem E_zast {a : Nat} {i x : Int32} (hd : decode μ.2.1 pc = .ok (.bastore, 1)) (hk : g.2.1 a = 14) (ha : 16 ≤ a) (h2 : a < g.1) (hin : vp_in i (g.2.2 a)) (hx : x = 0 ∨ x = 1)
    (kk : E Γ μ d mc ms QQ rc rs (pc + 1) lv st g P (u2 I a i.toNatClampNeg x)) : E Γ μ d mc ms QQ rc rs pc lv (.int x :: .int i :: .ref a :: st) g P I := by
  intro p e R s m args below meth c C H locs cells slots ls h1 h2' h3 hl hw hs
  have hat := Wd_at hw ha h2
  rw [el_z hk] at hat
  have hz : narrow .boolean (.int x) = .int x := by rcases hx with rfl | rfl <;> rfl
  refine W.zast C.1 C.2.1 hat ((C.K.2 1 _ (ty_1 Γ)).1 _ _) (fun q => by cases q) (by show ¬ (i < 0 ∨ (arrV _ _ _).slots.size ≤ _); rw [arrV_size]; exact hin) rfl rfl hd fun H1 e1 z oq => ?_
  refine kk p e R s m args below meth c C H1 _ cells slots ls h1 h2' (locs_in h3 ha) hl (Wd_set hw ha z oq ?_ (fun b hb => ⟨rfl, u2_oth I hb⟩)) (by rw [z]; exact hs)
  rw [el_z hk]
  show H1[ad Γ a]? = some (vp_cell _ _)
  rw [e1, hz, vp_cell_i, vp_cell_i, arrV_store, updV_i, u2_row]
theorem ty_r (Γ : GE) {t : Nat} (ht : t < 3) : (tys Γ)[2 + t]? = some (gc Γ (2 + t), .object (["GorgeWire$Row", "GorgeWire$Ride", "java/lang/String"].getD t "")) := by
  rcases (show t = 0 ∨ t = 1 ∨ t = 2 by omega) with rfl | rfl | rfl <;> rfl
theorem E_aaldv {a t : Nat} {i : Int32} (v : Value) (hd : decode μ.2.1 pc = .ok (.aaload, 1)) (ht : t < 3) (hk : g.2.1 a = 15 + t) (ha : 16 ≤ a) (h2 : a < g.1) (hin : vp_in i (g.2.2 a)) (hv : va_rf ((P a i.toNatClampNeg).map (ad Γ)) = cv Γ v)
    (kk : E Γ μ d mc ms QQ rc rs (pc + 1) lv (v :: st) g P I) : E Γ μ d mc ms QQ rc rs pc lv (.int i :: .ref a :: st) g P I := by
  intro p e R s m args below meth c C H locs cells slots ls h1 h2' h3 hl hw hs
  refine va_aldq C.1 C.2.1 C.K hw.2.2 (a - 16) (2 + t) (by rw [wl_get ha h2, el_r hk]) (ty_r Γ ht) hin hd ?_
  rw [hv]
  exact kk p e R s m args below meth c C H locs cells slots ls h1 h2' h3 hl hw hs
theorem E_aald {a t b : Nat} {i : Int32} (hd : decode μ.2.1 pc = .ok (.aaload, 1)) (ht : t < 3) (hk : g.2.1 a = 15 + t) (ha : 16 ≤ a) (h2 : a < g.1) (hin : vp_in i (g.2.2 a)) (hp : P a i.toNatClampNeg = some b)
    (kk : E Γ μ d mc ms QQ rc rs (pc + 1) lv (.ref b :: st) g P I) : E Γ μ d mc ms QQ rc rs pc lv (.int i :: .ref a :: st) g P I :=
  E_aaldv (.ref b) hd ht hk ha h2 hin (by rw [hp]; rfl) kk
theorem E_aaldN {a t : Nat} {i : Int32} (hd : decode μ.2.1 pc = .ok (.aaload, 1)) (ht : t < 3) (hk : g.2.1 a = 15 + t) (ha : 16 ≤ a) (h2 : a < g.1) (hin : vp_in i (g.2.2 a)) (hp : P a i.toNatClampNeg = none)
    (kk : E Γ μ d mc ms QQ rc rs (pc + 1) lv (.null :: st) g P I) : E Γ μ d mc ms QQ rc rs pc lv (.int i :: .ref a :: st) g P I :=
  E_aaldv .null hd ht hk ha h2 hin (by rw [hp]; rfl) kk
/-- a cell that may stand in an array of a class -/
def anyOf (Γ : GE) (g : Sh) (P : HP) (I : HI) (En : String) (b : Nat) : Prop := ∀ (s : State) (H : Heap), KE Γ s → Wd Γ g P I H → va_Any En s H (ad Γ b)
theorem any_same {b ci : Nat} {q : vw_C} (hc : vwCl[ci]? = some q) (hk : g.2.1 b = ci) (ha : 16 ≤ b) (h2 : b < g.1) : anyOf Γ g P I q.1 b := fun s H hK hw =>
  va_rAny hK.1 hw.2.2 (by rw [wl_get ha h2, el_o hk (vwCl_lt hc)]) hc (fun comp c0 e1 e2 => by
    cases e1.symm.trans e2
    exact va_assign (hK.1.1 ci q hc).2 |> fun z => by
      cases e1.symm.trans (hK.1.1 ci q hc).2.1
      exact z)
theorem any_cast {b ci : Nat} {q : vw_C} {En : String} (hc : vwCl[ci]? = some q) (hcast : (q.1, En) ∈ castL) (hk : g.2.1 b = ci) (ha : 16 ≤ b) (h2 : b < g.1) : anyOf Γ g P I En b := fun s H hK hw =>
  va_rAny hK.1 hw.2.2 (by rw [wl_get ha h2, el_o hk (vwCl_lt hc)]) hc (fun comp c0 e1 e2 => by
    obtain ⟨c1, t1, f1, f2, f3⟩ := Cond.castable_spec (va_Nw.use (A := #[]) rfl (hK.2.2.1 _ hcast))
    cases f1.symm.trans e2
    cases f2.symm.trans e1
    exact f3)
theorem any_str {b : Nat} (hb : b < 5) : anyOf Γ g P I "java/lang/String" b := by
  intro s H hK hw
  obtain ⟨⟨cell, h1, h2, h3, h4⟩, -⟩ := hK.2.2.2.2.2.2.2.1.1 b hb
  rw [show ad Γ b = gx Γ b from if_pos (by omega)]
  obtain ⟨kC, hkC, -⟩ := Vm.findClass_spec h3
  have hq : gx Γ b < (gH Γ).size := (Array.getElem?_eq_some_iff.mp h1).1
  refine ⟨cell, by rw [hw.2.1 _ hq]; exact h1, h2, ⟨kC, hkC⟩, fun comp e1 => ?_⟩
  cases h3.symm.trans e1
  show s.vm.assignableAux (255 + 1) cell.cls cell.cls = true
  rw [Vm.assignableAux]
  simp only [beq_self_eq_true, Bool.true_or]
theorem E_aast {a t b : Nat} {i : Int32} (hd : decode μ.2.1 pc = .ok (.aastore, 1)) (ht : t < 3) (hk : g.2.1 a = 15 + t) (ha : 16 ≤ a) (h2 : a < g.1) (hin : vp_in i (g.2.2 a)) (hb : anyOf Γ g P I (["GorgeWire$Row", "GorgeWire$Ride", "java/lang/String"].getD t "") b)
    (kk : E Γ μ d mc ms QQ rc rs (pc + 1) lv st g (u2 P a i.toNatClampNeg (some b)) I) : E Γ μ d mc ms QQ rc rs pc lv (.ref b :: .int i :: .ref a :: st) g P I := by
  intro p e R s m args below meth c C H locs cells slots ls h1 h2' h3 hl hw hs
  have hlt : i.toNatClampNeg < g.2.2 a := Nat.not_le.mp fun q => hin (Or.inr q)
  have h0 : ¬ i < 0 := fun q => hin (Or.inl q)
  have hat := Wd_at hw ha h2
  rw [el_r hk] at hat
  obtain ⟨cellV, g1, g3, ⟨kC, hkC⟩, hasg⟩ := hb s H C.2.2.2.2.2.2.2.2.2.1 hw
  obtain ⟨kA, comp, k1, k2, k3, -⟩ := (C.K.2 (2 + t) _ (ty_r Γ ht)).2
  obtain ⟨kE, hkE, -⟩ := Vm.findClass_spec k3
  refine W.aast C.1 C.2.1 hat (fun q h => by cases h) (fun h => by cases h) k1 k2 rfl hkE ⟨h0, by show _ < (arrV _ _ _).slots.size; rw [arrV_size]; exact hlt⟩ g1 (fun q h => by rw [h] at g3; cases g3) hkC (hasg _ k3) rfl rfl hd fun H1 e1 z oq => ?_
  refine kk p e R s m args below meth c C H1 _ cells slots ls h1 h2' (locs_in h3 ha) hl (Wd_set hw ha z oq ?_ (fun b hb => ⟨u2_oth P hb, rfl⟩)) (by rw [z]; exact hs)
  rw [el_r hk]
  show H1[ad Γ a]? = some (vp_cell _ _)
  rw [e1, vp_cell_q, vp_cell_q, arrV_store, show Value.ref (ad Γ b) = va_rf ((some b).map (ad Γ)) from rfl, updV_r, u2_row]
theorem E_aastN {a t : Nat} {i : Int32} (hd : decode μ.2.1 pc = .ok (.aastore, 1)) (ht : t < 3) (hk : g.2.1 a = 15 + t) (ha : 16 ≤ a) (h2 : a < g.1) (hin : vp_in i (g.2.2 a))
    (kk : E Γ μ d mc ms QQ rc rs (pc + 1) lv st g (u2 P a i.toNatClampNeg none) I) : E Γ μ d mc ms QQ rc rs pc lv (.null :: .int i :: .ref a :: st) g P I := by
  intro p e R s m args below meth c C H locs cells slots ls h1 h2' h3 hl hw hs
  have hat := Wd_at hw ha h2
  rw [el_r hk] at hat
  refine va_WaastN C.1 C.2.1 hat ((C.K.2 (2 + t) _ (ty_r Γ ht)).1 _ (fun j => va_rf ((P a j).map (ad Γ)))) (fun h => by cases h) (by show ¬ (i < 0 ∨ (arrV _ _ _).slots.size ≤ _); rw [arrV_size]; exact hin) rfl rfl hd fun H1 e1 z oq => ?_
  refine kk p e R s m args below meth c C H1 _ cells slots ls h1 h2' (locs_in h3 ha) hl (Wd_set hw ha z oq ?_ (fun b hb => ⟨u2_oth P hb, rfl⟩)) (by rw [z]; exact hs)
  rw [el_r hk]
  show H1[ad Γ a]? = some (vp_cell _ _)
  rw [e1, vp_cell_q, vp_cell_q, arrV_store, show Value.null = va_rf ((none : Option Nat).map (ad Γ)) from rfl, updV_r, u2_row]
/-- the shape behind a new cell -/
def gNew (g : Sh) (kd ln : Nat) : Sh := (g.1 + 1, ur g.2.1 g.1 kd, ur g.2.2 g.1 ln)
theorem el_new {g : Sh} {kd ln : Nat} {P P' : HP} {I I' : HI} {b : Nat} (h : b ≠ g.1) (hP : P' b = P b) (hI : I' b = I b) : el Γ (gNew g kd ln) P' I' b = el Γ g P I b := by
  have hf : ∀ c, fv Γ P' I' b c = fv Γ P I b c := by intro c; funext j; unfold fv; rw [hP, hI]
  unfold el flds
  simp only [show (gNew g kd ln).2.1 b = g.2.1 b from ur_n _ _ h, show (gNew g kd ln).2.2 b = g.2.2 b from ur_n _ _ h, hP, hI, hf]
theorem new_at {g : Sh} {H : Heap} (hg : 16 ≤ g.1) (hw : Wd Γ g P I H) : Value.ref H.size = cv Γ (.ref g.1) := by
  show _ = Value.ref (ad Γ g.1)
  rw [ad_16 Γ hg, hw.1]
theorem E_new {ci idx N : Nat} {Cn : String} {T : u_T} (hd : decode μ.2.1 pc = .ok (.new idx, 3)) (hc : CF ci Cn T N) (hl : Cond.classLink μ.1.cls idx Cn ∈ gtb) (hg : 16 ≤ g.1)
    (kk : E Γ μ d mc ms QQ rc rs (pc + 3) lv (.ref g.1 :: st) (gNew g ci 0) (ur P g.1 (fun _ => none)) (ur I g.1 (fun _ => 0))) : E Γ μ d mc ms QQ (rc + 1) (rs + N) pc lv st g P I := by
  intro p e R s m args below meth c C H locs cells slots ls h1 h2' h3 hl' hw hs
  obtain ⟨c1, c2, c3, c4, c5, c6, c7⟩ := hc
  have hKn := C.K.1 ci _ c1
  have hr := C.room
  refine W.newcK C.1 C.2.1 C.own (C.hts _ hl) (C.hts _ c6) (C.hts _ c7) rfl hd (by omega) (by omega) hKn.2.1 rfl fun H1 kC hkC e1 z1 o1 => ?_
  have kk := kk p e R s m args below meth c C H1 locs (cells + 1) (slots + N) ls (by omega) (by omega) h3 hl' (Wd_new hw hg rfl z1 o1 ?_ (fun b hb => el_new hb (ur_n _ _ hb) (ur_n _ _ hb))) (by omega)
  · rw [List.map_cons, ← new_at hg hw] at kk
    exact kk
  · rw [el_o (ci := ci) (by exact ur_s _ _ _) (vwCl_lt c1)]
    refine ⟨_, c1, (u_born (tyof ci) C.hts c3 hKn hkC e1 c4).to (fun k hk => ?_)⟩
    have h5 : k < nf ci := by rw [← c2]; exact hk
    unfold vp_V
    rw [List.getD_eq_getElem?_getD, flds_get h5]
    show _ = fv _ _ _ _ _ _
    have h6 := ok_ty ci (vwCl_lt c1) k h5
    unfold fv fint
    rw [ur_s, ur_s]
    cases h7 : tyof ci k <;> rw [h7] at h6 <;> first | rfl | cases h6
theorem E_newi {n : Int32} (hd : decode μ.2.1 pc = .ok (.newarray .int, 2)) (hl : Cond.arrayClass .int ∈ gtb) (hg : 16 ≤ g.1) (hn : ¬ n < 0) (hb : n.toNatClampNeg ≤ 1000) {N : Nat} (hN : n.toNatClampNeg = N)
    (kk : E Γ μ d mc ms QQ rc rs (pc + 2) lv (.ref g.1 :: st) (gNew g 13 N) (ur P g.1 (fun _ => none)) (ur I g.1 (fun _ => 0))) : E Γ μ d mc ms QQ (rc + 1) (rs + N) pc lv (.int n :: st) g P I := by
  intro p e R s m args below meth c C H locs cells slots ls h1 h2' h3 hl' hw hs
  have hr := C.room
  refine va_newaK (atype := .int) C.1 C.2.1 (C.hts _ hl) rfl hd rfl hn hN (by show N * 4 ≤ _; omega) (by omega) (by omega) rfl fun H1 cA e1 z1 o1 hAr hNm => ?_
  have kk := kk p e R s m args below meth c C H1 locs (cells + 1) (slots + N) ls (by omega) (by omega) h3 hl' (Wd_new hw hg rfl z1 o1 ?_ (fun b hb => el_new hb (ur_n _ _ hb) (ur_n _ _ hb))) (by omega)
  · rw [List.map_cons, ← new_at hg hw] at kk
    exact kk
  · rw [el_i (by exact ur_s _ _ _)]
    show H1[H.size]? = some (vp_cell _ _)
    rw [vp_cell_i, e1]
    have hcA : cA = gc Γ 0 := Option.some.inj (hNm.symm.trans (C.K.2 0 _ (ty_0 Γ)).2)
    subst hcA
    rw [show (gNew g 13 N).2.2 g.1 = N from ur_s _ _ _, ur_s]
    rfl
theorem E_newz {n : Int32} (hd : decode μ.2.1 pc = .ok (.newarray .boolean, 2)) (hl : Cond.arrayClass .boolean ∈ gtb) (hg : 16 ≤ g.1) (hn : ¬ n < 0) (hb : n.toNatClampNeg ≤ 1000) {N : Nat} (hN : n.toNatClampNeg = N)
    (kk : E Γ μ d mc ms QQ rc rs (pc + 2) lv (.ref g.1 :: st) (gNew g 14 N) (ur P g.1 (fun _ => none)) (ur I g.1 (fun _ => 0))) : E Γ μ d mc ms QQ (rc + 1) (rs + N) pc lv (.int n :: st) g P I := by
  intro p e R s m args below meth c C H locs cells slots ls h1 h2' h3 hl' hw hs
  have hr := C.room
  refine va_newaK (atype := .boolean) C.1 C.2.1 (C.hts _ hl) rfl hd rfl hn hN (by show N * 1 ≤ _; omega) (by omega) (by omega) rfl fun H1 cA e1 z1 o1 hAr hNm => ?_
  have kk := kk p e R s m args below meth c C H1 locs (cells + 1) (slots + N) ls (by omega) (by omega) h3 hl' (Wd_new hw hg rfl z1 o1 ?_ (fun b hb => el_new hb (ur_n _ _ hb) (ur_n _ _ hb))) (by omega)
  · rw [List.map_cons, ← new_at hg hw] at kk
    exact kk
  · rw [el_z (by exact ur_s _ _ _)]
    show H1[H.size]? = some (vp_cell _ _)
    rw [vp_cell_i, e1]
    have hcA : cA = gc Γ 1 := Option.some.inj (hNm.symm.trans (C.K.2 1 _ (ty_1 Γ)).2)
    subst hcA
    rw [show (gNew g 14 N).2.2 g.1 = N from ur_s _ _ _, ur_s]
    rfl
theorem E_newr {n : Int32} {t idx : Nat} (hd : decode μ.2.1 pc = .ok (.anewarray idx, 3)) (ht : t < 3) (hl : Cond.classLink μ.1.cls idx (["GorgeWire$Row", "GorgeWire$Ride", "java/lang/String"].getD t "") ∈ gtb) (hg : 16 ≤ g.1) (hn : ¬ n < 0) (hb : n.toNatClampNeg ≤ 1000) {N : Nat} (hN : n.toNatClampNeg = N)
    (kk : E Γ μ d mc ms QQ rc rs (pc + 3) lv (.ref g.1 :: st) (gNew g (15 + t) N) (ur P g.1 (fun _ => none)) (ur I g.1 (fun _ => 0))) : E Γ μ d mc ms QQ (rc + 1) (rs + N) pc lv (.int n :: st) g P I := by
  intro p e R s m args below meth c C H locs cells slots ls h1 h2' h3 hl' hw hs
  have hr := C.room
  subst hN
  have hao : va_AO (["GorgeWire$Row", "GorgeWire$Ride", "java/lang/String"].getD t "") s := by
    refine C.X.2.2.2.2.1 _ ?_
    rcases (show t = 0 ∨ t = 1 ∨ t = 2 by omega) with rfl | rfl | rfl <;> decide
  refine W.anew C.1 C.2.1 C.own (C.hts _ hl) (va_AO.use hao) rfl hd rfl hn (by omega) (by omega) (by omega) fun cA kA comp f1 f2 f3 f4 => ?_
  generalize hH1 : H.push ({ cls := cA, slots := Array.replicate n.toNatClampNeg .null, vm := .none } : Cell) = H1
  have z1 : H1.size = H.size + 1 := by rw [← hH1, Array.size_push]
  have e1 : H1[H.size]? = some (arrV cA n.toNatClampNeg (fun _ => .null)) := by rw [← hH1, Array.getElem?_push_size, ← arrV_new]
  have o1 : ∀ q : Nat, q < H.size → H1[q]? = H[q]? := fun q hq => by rw [← hH1, Array.getElem?_push, if_neg (Nat.ne_of_lt hq)]
  have kk := kk p e R s m args below meth c C H1 locs (cells + 1) (slots + n.toNatClampNeg) ls (by omega) (by omega) h3 hl' (Wd_new hw hg rfl z1 o1 ?_ (fun b hb => el_new hb (ur_n _ _ hb) (ur_n _ _ hb))) (by omega)
  · rw [List.map_cons, ← new_at hg hw] at kk
    exact kk
  · rw [el_r (t := t) (by exact ur_s _ _ _)]
    show H1[H.size]? = some (vp_cell _ _)
    rw [vp_cell_q, e1]
    obtain ⟨-, -, -, -, -, k4⟩ := (C.K.2 (2 + t) _ (ty_r Γ ht)).2
    have hcA : cA = gc Γ (2 + t) := Option.some.inj (f1.symm.trans k4)
    subst hcA
    rw [show (gNew g (15 + t) n.toNatClampNeg).2.2 g.1 = n.toNatClampNeg from ur_s _ _ _, ur_s]
    rfl
end Rules
