/-! order -/
abbrev OT := (Nat → Int32) × (Nat → Int32) × Option Int32
/-- whether load i is still to go -/
def ub (u : Int32) (i : Nat) : Int32 := (u >>> (nI i &&& 31)) &&& 1
def us (u : Int32) (i : Nat) : Int32 := u ||| ((1 : Int32) <<< (nI i &&& 31))
def btr (time : Int32) (b : Option Int32) : Bool := match b with
  | none => true
  | some v => decide (time < v)
def oLf (n : Nat) (time : Int32) (t : OT) : OT := if btr time t.2.2 = true then (t.1, va_cpy t.1 t.2.1 0 0 n, some time) else t
def ordL (rec : Int32 → Int32 → Int32 → OT → OT) (tm sd : Nat → Int32) (dp : Nat) (used sheave time : Int32) : Nat → Nat → OT → OT
  | 0, _, t => t
  | u + 1, i, t => ordL rec tm sd dp used sheave time u (i + 1) (if ub used i = 0 then rec (us used i) (1 - sd i) (time + tm i + (if sd i = sheave then 0 else 5)) (ur t.1 dp (nI i), t.2) else t)
def ord (n : Nat) (tm sd : Nat → Int32) : Nat → Int32 → Int32 → Int32 → OT → OT
  | 0, _, _, time, t => oLf n time t
  | r + 1, used, sheave, time, t => ordL (ord n tm sd r) tm sd (n - (r + 1)) used sheave time n 0 t
def okT (t : OT) : Prop := ∀ v, t.2.2 = some v → 0 ≤ v.toInt
/-- a time behind some loads -/
def okTm (time : Int32) (k : Nat) : Prop := 0 ≤ time.toInt ∧ time.toInt ≤ 104 * k
def okTs (tm : Nat → Int32) (n : Nat) : Prop := ∀ i, i < n → 1 ≤ (tm i).toInt ∧ (tm i).toInt ≤ 99
theorem okTm_s {time t : Int32} {k : Nat} {e : Int32} (h : okTm time k) (hk : k < 1000) (ht : 1 ≤ t.toInt ∧ t.toInt ≤ 99) (he : e = 0 ∨ e = 5) : okTm (time + t + e) (k + 1) := by
  obtain ⟨h1, h2⟩ := h
  have e1 : (time + t).toInt = time.toInt + t.toInt := add32 (by omega) (by omega)
  have e2 : 0 ≤ e.toInt ∧ e.toInt ≤ 5 := by rcases he with rfl | rfl <;> decide
  unfold okTm
  rw [add32 (by omega) (by omega), e1]
  omega
theorem ord_ok {n : Nat} {tm sd : Nat → Int32} (hT : okTs tm n) (hn : n ≤ 5) : ∀ (r : Nat) (used sheave time : Int32) (t : OT), r ≤ n → okTm time (n - r) → okT t → okT (ord n tm sd r used sheave time t)
  | 0, used, sheave, time, t, _, hm, ht => by
    unfold ord oLf
    split
    · intro v hv
      cases hv
      exact hm.1
    · exact ht
  | r + 1, used, sheave, time, t, hr, hm, ht => by
    unfold ord
    have loop : ∀ (u i : Nat) (t : OT), i + u = n → okT t → okT (ordL (ord n tm sd r) tm sd (n - (r + 1)) used sheave time u i t) := by
      intro u
      induction u with
      | zero => intro i t _ ht; exact ht
      | succ u ih =>
        intro i t hi ht
        unfold ordL
        refine ih (i + 1) _ (by omega) ?_
        split
        · refine ord_ok hT hn r _ _ _ _ (by omega) ?_ ht
          have := okTm_s hm (by omega) (hT i (by omega)) (e := if sd i = sheave then 0 else 5) (by split; exact Or.inl rfl; exact Or.inr rfl)
          rw [show n - (r + 1) + 1 = n - r by omega] at this
          exact this
        · exact ht
    exact loop n 0 t (by omega) ht
theorem i32_arc (a b c : Int32) : a + b + c = a + c + b := by rw [Int32.add_assoc, Int32.add_comm b c, ← Int32.add_assoc]
/-- the class's heap with what the search holds -/
def sT (I : HI) (t : OT) : HI := u2 (ur (ur I 99 t.1) 100 t.2.1) 16 12 (t.2.2.getD 1000000)
theorem sT_o {I : HI} {t : OT} {a : Nat} (h1 : a ≠ 99) (h2 : a ≠ 100) (h3 : a ≠ 16) : sT I t a = I a := by
  unfold sT
  rw [u2_oth _ h3, ur_n _ _ h2, ur_n _ _ h1]
theorem sT_99 (I : HI) (t : OT) : sT I t 99 = t.1 := by
  unfold sT
  rw [u2_oth _ (by decide), ur_n _ _ (by decide), ur_s]
theorem sT_100 (I : HI) (t : OT) : sT I t 100 = t.2.1 := by
  unfold sT
  rw [u2_oth _ (by decide), ur_s]
theorem sT_b (I : HI) (t : OT) : sT I t 16 12 = t.2.2.getD 1000000 := by
  unfold sT
  rw [u2_s]
theorem sT_eq {I J : HI} {t : OT} (h1 : J 99 = t.1) (h2 : J 100 = t.2.1) (h3 : J 16 12 = t.2.2.getD 1000000) (h4 : ∀ a, a ≠ 99 → a ≠ 100 → a ≠ 16 → J a = I a) (h5 : ∀ k, k ≠ 12 → J 16 k = I 16 k) : J = sT I t := by
  funext a
  by_cases e1 : a = 99
  · rw [e1, h1, sT_99]
  · by_cases e2 : a = 100
    · rw [e2, h2, sT_100]
    · by_cases e3 : a = 16
      · subst e3
        funext k
        by_cases e4 : k = 12
        · rw [e4, h3, sT_b]
        · rw [h5 k e4]
          unfold sT
          rw [u2_o (fun h => e4 h.2), ur_n _ _ (by decide), ur_n _ _ (by decide)]
      · rw [h4 a e1 e2 e3, sT_o e1 e2 e3]
theorem sT_16 {I : HI} {t : OT} {k : Nat} (h : k ≠ 12) : sT I t 16 k = I 16 k := by
  unfold sT
  rw [u2_o (fun q => h q.2), ur_n _ _ (by decide), ur_n _ _ (by decide)]
theorem sT_sT (I : HI) (t t' : OT) : sT (sT I t) t' = sT I t' :=
  sT_eq (sT_99 _ _) (sT_100 _ _) (sT_b _ _) (fun a h1 h2 h3 => by rw [sT_o h1 h2 h3, sT_o h1 h2 h3]) (fun k h => by rw [sT_16 h, sT_16 h])
section
variable {Γ : GE} {g : Sh} {P : HP}
theorem c_X11_tryOrders {n : Nat} {I : HI} (hL : Ly g P) (e1 : I 39 1 = nI n) (e2 : I 41 1 = nI n) (hn : n ≤ 5) (hT : okTs (I 40) n) : ∀ (r : Nat) {d : Nat} {used sheave time x : Int32} {t : OT} {Φ : Option Value → Sh → HP → HI → Prop}, r + 2 ≤ d → r ≤ n → x = nI (n - r) → okTm time (n - r) → Φ none g P (sT I (ord n (I 40) (I 42) r used sheave time t)) → MM Γ mX11_tryOrders d 0 0 [.ref 16, .int x, .int used, .int sheave, .int time] g P (sT I t) Φ := by
  intro r
  have h0 := hL.gw
  have l1 := hL.live
  have l2 := hL.s21.c
  obtain ⟨p1, p2⟩ : P 21 15 = some 39 ∧ RS g P 39 40 5 := hL.s21.tim
  obtain ⟨q1, q2⟩ : P 21 16 = some 41 ∧ RS g P 41 42 5 := hL.s21.sid
  have p3 := p2.1
  have q3 := q2.1
  obtain ⟨t1, t2, t3⟩ := hL.tri
  obtain ⟨b1, b2, b3⟩ := hL.bes
  have f1 : ∀ t, (sT I t) 39 1 = nI n := fun t => by rw [sT_o (by decide) (by decide) (by decide)]; exact e1
  have f2 : ∀ t, (sT I t) 41 1 = nI n := fun t => by rw [sT_o (by decide) (by decide) (by decide)]; exact e2
  have g1 : ∀ t, (sT I t) 40 = I 40 := fun t => sT_o (by decide) (by decide) (by decide)
  have g2 : ∀ t, (sT I t) 42 = I 42 := fun t => sT_o (by decide) (by decide) (by decide)
  induction r with
  | zero =>
    intro d used sheave time x t Φ hd hr hx hm hΦ
    refine MM_entry [some _, some _, some _, some _, some _, none, none, none, none] (by decide) (Nat.le_of_ble_eq_true rfl) rfl ?_
    have c0 : (0 : Int32).toNatClampNeg = 0 := rfl
    unfold ord oLf at hΦ
    by_cases hb : btr time t.2.2 = true
    · rw [if_pos hb] at hΦ
      have hlt : time < t.2.2.getD 1000000 := by
        cases e : t.2.2 with
        | none =>
          rw [i32_lt]
          have := hm.2
          have m : (1000000 : Int32).toInt = 1000000 := rfl
          show time.toInt < (1000000 : Int32).toInt
          omega
        | some v =>
          rw [e] at hb
          exact of_decide_eq_true hb
      refine E_aload_n (i := 0) dX11_tryOrders_0 rfl rfl ?_
      refine E_gr dX11_tryOrders_1 gf_X11_21_11 rfl (by assumption) (by assumption) ?_
      refine E_gr dX11_tryOrders_4 gf_X11_232_8 rfl (by assumption) (by assumption) ?_
      refine E_gi dX11_tryOrders_7 gf_X11_159_7 rfl (by assumption) ?_
      rw [f1]
      refine E_istoreC dX11_tryOrders_10 (by decide) rfl ?_
      refine E_lv (lv' := [_, _, _, _, _, _, _, _, _]) rfl ?_
      refine E_iload_n (i := 1) dX11_tryOrders_12 rfl rfl ?_
      refine E_iload dX11_tryOrders_13 rfl ?_
      refine E_icmp_lt (tgt := 49) dX11_tryOrders_15 (by decide) (fun c_15 => absurd c_15 (by rw [hx]; exact nI_nlt (by omega) (by omega))) (fun c_15 => ?_)
      refine E_iload dX11_tryOrders_18 rfl ?_
      refine E_aload_n (i := 0) dX11_tryOrders_20 rfl rfl ?_
      refine E_gi dX11_tryOrders_21 gf_X11_64_11 rfl (by assumption) ?_
      rw [sT_b]
      refine E_icmp_ge (tgt := 48) dX11_tryOrders_24 (by decide) (fun c_24 => absurd c_24 (Int32.not_le.mpr hlt)) (fun c_24 => ?_)
      refine E_aload_n (i := 0) dX11_tryOrders_27 rfl rfl ?_
      refine E_iload dX11_tryOrders_28 rfl ?_
      refine E_pi dX11_tryOrders_30 gf_X11_64_11 rfl (by assumption) ?_
      refine E_aload_n (i := 0) dX11_tryOrders_33 rfl rfl ?_
      refine E_gr dX11_tryOrders_34 gf_X11_58_11 rfl (by assumption) (by assumption) ?_
      refine E_iconst (v := 0) dX11_tryOrders_37 (by decide) ?_
      refine E_aload_n (i := 0) dX11_tryOrders_38 rfl rfl ?_
      refine E_gr dX11_tryOrders_39 gf_X11_61_11 rfl (by assumption) (by assumption) ?_
      refine E_iconst (v := 0) dX11_tryOrders_42 (by decide) ?_
      refine E_iload dX11_tryOrders_43 rfl ?_
      refine E_copy dX11_tryOrders_45 w_950 w_790 w_789 w_90 (Nat.le_of_ble_eq_true rfl) (by omega) t2.1 t2.2.1 t2.2.2 b2.1 b2.2.1 b2.2.2 (by decide) (by decide) (nI_pos (by omega)) (by rw [t3, c0, nI_clamp (by omega)]; omega) (by rw [b3, c0, nI_clamp (by omega)]; omega) ?_
      refine E_vret dX11_tryOrders_48 rfl ?_
      rw [c0, nI_clamp (by omega)]
      refine (congrArg (Φ none g P) (sT_eq (I := I) (t := (t.1, va_cpy t.1 t.2.1 0 0 n, some time)) ?_ ?_ ?_ ?_ ?_)).mpr hΦ
      · rw [ur_n _ _ (by decide), u2_oth _ (by decide), sT_99]
      · rw [ur_s, u2_oth _ (by decide), u2_oth _ (by decide), sT_99, sT_100]
      · rw [ur_n _ _ (by decide), u2_s]
        rfl
      · intro a h1 h2 h3
        rw [ur_n _ _ h2, u2_oth _ h3, sT_o h1 h2 h3]
      · intro k hk
        rw [ur_n _ _ (by decide), u2_o (fun h => hk h.2), sT_16 hk]
    · rw [if_neg hb] at hΦ
      have hge : t.2.2.getD 1000000 ≤ time := by
        cases e : t.2.2 with
        | none =>
          rw [e] at hb
          exact absurd rfl hb
        | some v =>
          rw [e] at hb
          exact Int32.not_lt.mp (fun q => hb (decide_eq_true q))
      refine E_aload_n (i := 0) dX11_tryOrders_0 rfl rfl ?_
      refine E_gr dX11_tryOrders_1 gf_X11_21_11 rfl (by assumption) (by assumption) ?_
      refine E_gr dX11_tryOrders_4 gf_X11_232_8 rfl (by assumption) (by assumption) ?_
      refine E_gi dX11_tryOrders_7 gf_X11_159_7 rfl (by assumption) ?_
      rw [f1]
      refine E_istoreC dX11_tryOrders_10 (by decide) rfl ?_
      refine E_lv (lv' := [_, _, _, _, _, _, _, _, _]) rfl ?_
      refine E_iload_n (i := 1) dX11_tryOrders_12 rfl rfl ?_
      refine E_iload dX11_tryOrders_13 rfl ?_
      refine E_icmp_lt (tgt := 49) dX11_tryOrders_15 (by decide) (fun c_15 => absurd c_15 (by rw [hx]; exact nI_nlt (by omega) (by omega))) (fun c_15 => ?_)
      refine E_iload dX11_tryOrders_18 rfl ?_
      refine E_aload_n (i := 0) dX11_tryOrders_20 rfl rfl ?_
      refine E_gi dX11_tryOrders_21 gf_X11_64_11 rfl (by assumption) ?_
      rw [sT_b]
      refine E_icmp_ge (tgt := 48) dX11_tryOrders_24 (by decide) (fun c_24 => ?_) (fun c_24 => absurd (hge) c_24)
      refine E_vret dX11_tryOrders_48 rfl ?_
      exact hΦ
  | succ r ih =>
    intro d used sheave time x t Φ hd hr hx hm hΦ
    refine MM_entry [some _, some _, some _, some _, some _, none, none, none, none] (by decide) (Nat.le_of_ble_eq_true rfl) rfl ?_
    unfold ord at hΦ
    have loop : ∀ (u i : Nat) (y : Int32) (w1 w2 : Option Value) (t : OT), i + u = n → y = nI i → Φ none g P (sT I (ordL (ord n (I 40) (I 42) r) (I 40) (I 42) (n - (r + 1)) used sheave time u i t)) → E Γ mX11_tryOrders d 0 0 (QM Γ 0 0 Φ) 0 0 52 [some (.ref 16), some (.int x), some (.int used), some (.int sheave), some (.int time), some (.int (nI n)), some (.int y), w1, w2] [] g P (sT I t) := by
      intro u
      induction u with
      | zero =>
        intro i y w1 w2 t hi hy hΦ
        have : i = n := by omega
        subst this
        refine E_iload dX11_tryOrders_52 rfl ?_
        refine E_iload dX11_tryOrders_54 rfl ?_
        refine E_icmp_ge (tgt := 144) dX11_tryOrders_56 (by decide) (fun c_56 => ?_) (fun c_56 => absurd (by rw [hy]; exact Int32.le_refl _) c_56)
        refine E_vret dX11_tryOrders_144 rfl ?_
        exact hΦ
      | succ u ih2 =>
        intro i y w1 w2 t hi hy hΦ
        unfold ordL at hΦ
        by_cases hu : ub used i = 0
        · rw [if_pos hu] at hΦ
          have hu' := hu
          unfold ub at hu'
          have ra : Rw g P (sT I t) 41 42 5 n := q2.w (f2 t) hn (by omega)
          have va : rat (sT I t) 42 n y = I 42 i := by rw [hy, rat_in (by omega) (by omega), g2]
          have eT : ∀ t : OT, u2 (sT I t) 99 (n - (r + 1)) y = sT I (ur t.1 (n - (r + 1)) (nI i), t.2) := fun t => by
            rw [hy]
            refine sT_eq ?_ ?_ ?_ ?_ ?_
            · rw [u2_row, sT_99]
            · rw [u2_oth _ (by decide), sT_100]
            · rw [u2_oth _ (by decide), sT_b]
            · intro a h1 h2 h3
              rw [u2_oth _ h1, sT_o h1 h2 h3]
            · intro k hk
              rw [u2_oth _ (by decide), sT_16 hk]
          have rb : ∀ t, Rw g P (sT I t) 39 40 5 n := fun t => p2.w (f1 t) hn (by omega)
          have vb : ∀ t, rat (sT I t) 40 n y = I 40 i := fun t => by rw [hy, rat_in (by omega) (by omega), g1]
          have hm2 := okTm_s hm (by omega) (hT i (by omega)) (e := if I 42 i = sheave then 0 else 5) (by split; exact Or.inl rfl; exact Or.inr rfl)
          rw [show n - (r + 1) + 1 = n - r by omega] at hm2
          have hx2 : x + 1 = nI (n - r) := by rw [hx, nI_1, show n - (r + 1) + 1 = n - r by omega]
          have hus : us used i = used ||| ((1 : Int32) <<< (y &&& 31)) := by rw [hy]; rfl
          rw [hus] at hΦ
          by_cases hs : I 42 i = sheave
          · rw [if_pos hs] at hΦ hm2
            refine E_iload dX11_tryOrders_52 rfl ?_
            refine E_iload dX11_tryOrders_54 rfl ?_
            refine E_icmp_ge (tgt := 144) dX11_tryOrders_56 (by decide) (fun c_56 => absurd c_56 (by rw [hy]; exact nI_ge (by omega) (by omega))) (fun c_56 => ?_)
            refine E_iload_n (i := 2) dX11_tryOrders_59 rfl rfl ?_
            refine E_iload dX11_tryOrders_60 rfl ?_
            refine E_ishr dX11_tryOrders_62 ?_
            refine E_iconst (v := 1) dX11_tryOrders_63 (by decide) ?_
            refine E_iand dX11_tryOrders_64 ?_
            refine E_if_ne (tgt := 138) dX11_tryOrders_65 (by decide) (fun c_65 => absurd (by rw [hy]; exact hu') c_65) (fun c_65 => ?_)
            refine E_aload_n (i := 0) dX11_tryOrders_68 rfl rfl ?_
            refine E_gr dX11_tryOrders_69 gf_X11_21_11 rfl (by assumption) (by assumption) ?_
            refine E_gr dX11_tryOrders_72 gf_X11_235_8 rfl (by assumption) (by assumption) ?_
            refine E_iload dX11_tryOrders_75 rfl ?_
            refine k_X11_tryOrders_77 (mc' := 0) (ms' := 0) (rc := 0) (rs := 0) (by omega) (Nat.le_of_ble_eq_true rfl) (by assumption) (c_X7_at (by omega) ra ?_)
            rw [va]
            refine E_istoreC dX11_tryOrders_80 (by decide) rfl ?_
            refine E_lv (lv' := [_, _, _, _, _, _, _, _, _]) rfl ?_
            refine E_iload dX11_tryOrders_82 rfl ?_
            refine E_iload_n (i := 3) dX11_tryOrders_84 rfl rfl ?_
            refine E_icmp_ne (tgt := 92) dX11_tryOrders_85 (by decide) (fun c_85 => absurd (hs) c_85) (fun c_85 => ?_)
            refine E_iconst (v := 0) dX11_tryOrders_88 (by decide) ?_
            refine E_goto (tgt := 93) dX11_tryOrders_89 (by decide) ?_
            refine E_istoreC dX11_tryOrders_93 (by decide) rfl ?_
            refine E_lv (lv' := [_, _, _, _, _, _, _, _, _]) rfl ?_
            refine E_aload_n (i := 0) dX11_tryOrders_95 rfl rfl ?_
            refine E_gr dX11_tryOrders_96 gf_X11_58_11 rfl (by assumption) (by assumption) ?_
            refine E_iload_n (i := 1) dX11_tryOrders_99 rfl rfl ?_
            refine E_iload dX11_tryOrders_100 rfl ?_
            refine E_isj (n - (r + 1)) dX11_tryOrders_102 (by assumption) hx (by first | decide | omega) (by rw [t3]; omega) ?_
            rw [eT]
            refine E_aload_n (i := 0) dX11_tryOrders_103 rfl rfl ?_
            refine E_iload_n (i := 1) dX11_tryOrders_104 rfl rfl ?_
            refine E_iconst (v := 1) dX11_tryOrders_105 (by decide) ?_
            refine E_iadd dX11_tryOrders_106 ?_
            refine E_iload_n (i := 2) dX11_tryOrders_107 rfl rfl ?_
            refine E_iconst (v := 1) dX11_tryOrders_108 (by decide) ?_
            refine E_iload dX11_tryOrders_109 rfl ?_
            refine E_ishl dX11_tryOrders_111 ?_
            refine E_ior dX11_tryOrders_112 ?_
            refine E_iconst (v := 1) dX11_tryOrders_113 (by decide) ?_
            refine E_iload dX11_tryOrders_114 rfl ?_
            refine E_isub dX11_tryOrders_116 ?_
            refine E_iload dX11_tryOrders_117 rfl ?_
            refine E_iload dX11_tryOrders_119 rfl ?_
            refine E_iadd dX11_tryOrders_121 ?_
            refine E_aload_n (i := 0) dX11_tryOrders_122 rfl rfl ?_
            refine E_gr dX11_tryOrders_123 gf_X11_21_11 rfl (by assumption) (by assumption) ?_
            refine E_gr dX11_tryOrders_126 gf_X11_232_8 rfl (by assumption) (by assumption) ?_
            refine E_iload dX11_tryOrders_129 rfl ?_
            refine k_X11_tryOrders_131 (mc' := 0) (ms' := 0) (rc := 0) (rs := 0) (by omega) (Nat.le_of_ble_eq_true rfl) (by assumption) (c_X7_at (by omega) (rb _) ?_)
            rw [vb]
            refine E_iadd dX11_tryOrders_134 ?_
            rw [i32_arc time]
            refine k_X11_tryOrders_135 (mc' := 0) (ms' := 0) (rc := 0) (rs := 0) (by omega) (Nat.le_of_ble_eq_true rfl) (by assumption) (ih (by omega) (by omega) hx2 hm2 ?_)
            refine E_incC (c := 1) dX11_tryOrders_138 rfl (by decide) (by decide) rfl ?_
            refine E_lv (lv' := [_, _, _, _, _, _, _, _, _]) rfl ?_
            refine E_goto (tgt := 52) dX11_tryOrders_141 (by decide) ?_
            exact ih2 (i + 1) _ _ _ _ (by omega) (by rw [hy, nI_1]) hΦ
          · rw [if_neg hs] at hΦ hm2
            refine E_iload dX11_tryOrders_52 rfl ?_
            refine E_iload dX11_tryOrders_54 rfl ?_
            refine E_icmp_ge (tgt := 144) dX11_tryOrders_56 (by decide) (fun c_56 => absurd c_56 (by rw [hy]; exact nI_ge (by omega) (by omega))) (fun c_56 => ?_)
            refine E_iload_n (i := 2) dX11_tryOrders_59 rfl rfl ?_
            refine E_iload dX11_tryOrders_60 rfl ?_
            refine E_ishr dX11_tryOrders_62 ?_
            refine E_iconst (v := 1) dX11_tryOrders_63 (by decide) ?_
            refine E_iand dX11_tryOrders_64 ?_
            refine E_if_ne (tgt := 138) dX11_tryOrders_65 (by decide) (fun c_65 => absurd (by rw [hy]; exact hu') c_65) (fun c_65 => ?_)
            refine E_aload_n (i := 0) dX11_tryOrders_68 rfl rfl ?_
            refine E_gr dX11_tryOrders_69 gf_X11_21_11 rfl (by assumption) (by assumption) ?_
            refine E_gr dX11_tryOrders_72 gf_X11_235_8 rfl (by assumption) (by assumption) ?_
            refine E_iload dX11_tryOrders_75 rfl ?_
            refine k_X11_tryOrders_77 (mc' := 0) (ms' := 0) (rc := 0) (rs := 0) (by omega) (Nat.le_of_ble_eq_true rfl) (by assumption) (c_X7_at (by omega) ra ?_)
            rw [va]
            refine E_istoreC dX11_tryOrders_80 (by decide) rfl ?_
            refine E_lv (lv' := [_, _, _, _, _, _, _, _, _]) rfl ?_
            refine E_iload dX11_tryOrders_82 rfl ?_
            refine E_iload_n (i := 3) dX11_tryOrders_84 rfl rfl ?_
            refine E_icmp_ne (tgt := 92) dX11_tryOrders_85 (by decide) (fun c_85 => ?_) (fun c_85 => absurd c_85 (hs))
            refine E_iconst (v := 5) dX11_tryOrders_92 (by decide) ?_
            refine E_istoreC dX11_tryOrders_93 (by decide) rfl ?_
            refine E_lv (lv' := [_, _, _, _, _, _, _, _, _]) rfl ?_
            refine E_aload_n (i := 0) dX11_tryOrders_95 rfl rfl ?_
            refine E_gr dX11_tryOrders_96 gf_X11_58_11 rfl (by assumption) (by assumption) ?_
            refine E_iload_n (i := 1) dX11_tryOrders_99 rfl rfl ?_
            refine E_iload dX11_tryOrders_100 rfl ?_
            refine E_isj (n - (r + 1)) dX11_tryOrders_102 (by assumption) hx (by first | decide | omega) (by rw [t3]; omega) ?_
            rw [eT]
            refine E_aload_n (i := 0) dX11_tryOrders_103 rfl rfl ?_
            refine E_iload_n (i := 1) dX11_tryOrders_104 rfl rfl ?_
            refine E_iconst (v := 1) dX11_tryOrders_105 (by decide) ?_
            refine E_iadd dX11_tryOrders_106 ?_
            refine E_iload_n (i := 2) dX11_tryOrders_107 rfl rfl ?_
            refine E_iconst (v := 1) dX11_tryOrders_108 (by decide) ?_
            refine E_iload dX11_tryOrders_109 rfl ?_
            refine E_ishl dX11_tryOrders_111 ?_
            refine E_ior dX11_tryOrders_112 ?_
            refine E_iconst (v := 1) dX11_tryOrders_113 (by decide) ?_
            refine E_iload dX11_tryOrders_114 rfl ?_
            refine E_isub dX11_tryOrders_116 ?_
            refine E_iload dX11_tryOrders_117 rfl ?_
            refine E_iload dX11_tryOrders_119 rfl ?_
            refine E_iadd dX11_tryOrders_121 ?_
            refine E_aload_n (i := 0) dX11_tryOrders_122 rfl rfl ?_
            refine E_gr dX11_tryOrders_123 gf_X11_21_11 rfl (by assumption) (by assumption) ?_
            refine E_gr dX11_tryOrders_126 gf_X11_232_8 rfl (by assumption) (by assumption) ?_
            refine E_iload dX11_tryOrders_129 rfl ?_
            refine k_X11_tryOrders_131 (mc' := 0) (ms' := 0) (rc := 0) (rs := 0) (by omega) (Nat.le_of_ble_eq_true rfl) (by assumption) (c_X7_at (by omega) (rb _) ?_)
            rw [vb]
            refine E_iadd dX11_tryOrders_134 ?_
            rw [i32_arc time]
            refine k_X11_tryOrders_135 (mc' := 0) (ms' := 0) (rc := 0) (rs := 0) (by omega) (Nat.le_of_ble_eq_true rfl) (by assumption) (ih (by omega) (by omega) hx2 hm2 ?_)
            refine E_incC (c := 1) dX11_tryOrders_138 rfl (by decide) (by decide) rfl ?_
            refine E_lv (lv' := [_, _, _, _, _, _, _, _, _]) rfl ?_
            refine E_goto (tgt := 52) dX11_tryOrders_141 (by decide) ?_
            exact ih2 (i + 1) _ _ _ _ (by omega) (by rw [hy, nI_1]) hΦ
        · rw [if_neg hu] at hΦ
          have hu' := hu
          unfold ub at hu'
          refine E_iload dX11_tryOrders_52 rfl ?_
          refine E_iload dX11_tryOrders_54 rfl ?_
          refine E_icmp_ge (tgt := 144) dX11_tryOrders_56 (by decide) (fun c_56 => absurd c_56 (by rw [hy]; exact nI_ge (by omega) (by omega))) (fun c_56 => ?_)
          refine E_iload_n (i := 2) dX11_tryOrders_59 rfl rfl ?_
          refine E_iload dX11_tryOrders_60 rfl ?_
          refine E_ishr dX11_tryOrders_62 ?_
          refine E_iconst (v := 1) dX11_tryOrders_63 (by decide) ?_
          refine E_iand dX11_tryOrders_64 ?_
          refine E_if_ne (tgt := 138) dX11_tryOrders_65 (by decide) (fun c_65 => ?_) (fun c_65 => absurd c_65 (by rw [hy]; exact hu'))
          refine E_incC (c := 1) dX11_tryOrders_138 rfl (by decide) (by decide) rfl ?_
          refine E_lv (lv' := [_, _, _, _, _, _, _, _, _]) rfl ?_
          refine E_goto (tgt := 52) dX11_tryOrders_141 (by decide) ?_
          exact ih2 (i + 1) _ _ _ _ (by omega) (by rw [hy, nI_1]) hΦ
    refine E_aload_n (i := 0) dX11_tryOrders_0 rfl rfl ?_
    refine E_gr dX11_tryOrders_1 gf_X11_21_11 rfl (by assumption) (by assumption) ?_
    refine E_gr dX11_tryOrders_4 gf_X11_232_8 rfl (by assumption) (by assumption) ?_
    refine E_gi dX11_tryOrders_7 gf_X11_159_7 rfl (by assumption) ?_
    rw [f1]
    refine E_istoreC dX11_tryOrders_10 (by decide) rfl ?_
    refine E_lv (lv' := [_, _, _, _, _, _, _, _, _]) rfl ?_
    refine E_iload_n (i := 1) dX11_tryOrders_12 rfl rfl ?_
    refine E_iload dX11_tryOrders_13 rfl ?_
    refine E_icmp_lt (tgt := 49) dX11_tryOrders_15 (by decide) (fun c_15 => ?_) (fun c_15 => absurd (by rw [hx]; exact (nI_ltI (by omega) (by omega)).mpr (by omega)) c_15)
    refine E_iconst (v := 0) dX11_tryOrders_49 (by decide) ?_
    refine E_istoreC dX11_tryOrders_50 (by decide) rfl ?_
    refine E_lv (lv' := [_, _, _, _, _, _, _, _, _]) rfl ?_
    exact loop n 0 _ _ _ t (by omega) rfl hΦ
end
