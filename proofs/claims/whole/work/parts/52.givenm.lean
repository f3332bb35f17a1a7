/-! the model's text, and what it gives -/
def dfc : Nat → List Int32
  | 0 => [10000, 100, 20008, 10001, 100, 20004, 20005]
  | _ => [10002, 5, 20007, 10000, 20004]
theorem df0 (a b c e : Int32) : vof (nm4 a b c e) (dfc 0) = a / 100 + bz (100 < b) := by
  have h : vof (nm4 a b c e) (dfc 0) = dnO 20005 (dnO 20008 a 100) (dnO 20004 b 100) := rfl
  rw [h, ← dn_5, ← dn_8n (by decide), dn_4]
theorem df1 (a b c e : Int32) : vof (nm4 a b c e) (dfc 1) = bz (a < c * 5) := by
  have h : vof (nm4 a b c e) (dfc 1) = dnO 20004 (dnO 20007 c 5) a := rfl
  rw [h, dn_4, ← dn_7]
theorem hgt_none : ∀ δ : List Int32, hgt δ none = none
  | [] => rfl
  | _ :: δ => hgt_none δ
section
variable {Γ : GE} {d : Nat} {g : Sh} {P : HP} {I : HI} {Φ : Option Value → Sh → HP → HI → Prop}
theorem done_0 {a b : Int32} (hΦ : Φ (some (.int (dnO 20000 a b))) g P I) : MM Γ mX12_done d 0 0 [.int 20000, .int a, .int b] g P I Φ := by
  by_cases h1 : a = 0
  · by_cases h2 : b = 0
    · rw [← dn_0f h1 h2] at hΦ
      refine MM_entry [some _, some _, some _] (by decide) (Nat.le_of_ble_eq_true rfl) rfl ?_
      refine E_iload_n (i := 0) dX12_done_0 rfl rfl ?_
      refine E_tswIn (tgt := 52) dX12_done_1 (by decide) (by decide) rfl (by decide) ?_
      refine E_iload_n (i := 1) dX12_done_52 rfl rfl ?_
      refine E_if_ne (tgt := 60) dX12_done_53 (by decide) (fun c_53 => absurd (h1) c_53) (fun c_53 => ?_)
      refine E_iload_n (i := 2) dX12_done_56 rfl rfl ?_
      refine E_if_eq (tgt := 64) dX12_done_57 (by decide) (fun c_57 => ?_) (fun c_57 => absurd (h2) c_57)
      refine E_iconst (v := 0) dX12_done_64 (by decide) ?_
      refine E_iret dX12_done_65 rfl ?_
      exact hΦ
    · rw [← dn_0 (Or.inr h2)] at hΦ
      refine MM_entry [some _, some _, some _] (by decide) (Nat.le_of_ble_eq_true rfl) rfl ?_
      refine E_iload_n (i := 0) dX12_done_0 rfl rfl ?_
      refine E_tswIn (tgt := 52) dX12_done_1 (by decide) (by decide) rfl (by decide) ?_
      refine E_iload_n (i := 1) dX12_done_52 rfl rfl ?_
      refine E_if_ne (tgt := 60) dX12_done_53 (by decide) (fun c_53 => absurd (h1) c_53) (fun c_53 => ?_)
      refine E_iload_n (i := 2) dX12_done_56 rfl rfl ?_
      refine E_if_eq (tgt := 64) dX12_done_57 (by decide) (fun c_57 => absurd c_57 (h2)) (fun c_57 => ?_)
      refine E_iconst (v := 1) dX12_done_60 (by decide) ?_
      refine E_goto (tgt := 65) dX12_done_61 (by decide) ?_
      refine E_iret dX12_done_65 rfl ?_
      exact hΦ
  · rw [← dn_0 (Or.inl h1)] at hΦ
    refine MM_entry [some _, some _, some _] (by decide) (Nat.le_of_ble_eq_true rfl) rfl ?_
    refine E_iload_n (i := 0) dX12_done_0 rfl rfl ?_
    refine E_tswIn (tgt := 52) dX12_done_1 (by decide) (by decide) rfl (by decide) ?_
    refine E_iload_n (i := 1) dX12_done_52 rfl rfl ?_
    refine E_if_ne (tgt := 60) dX12_done_53 (by decide) (fun c_53 => ?_) (fun c_53 => absurd c_53 (h1))
    refine E_iconst (v := 1) dX12_done_60 (by decide) ?_
    refine E_goto (tgt := 65) dX12_done_61 (by decide) ?_
    refine E_iret dX12_done_65 rfl ?_
    exact hΦ
theorem done_1 {a b : Int32} (hΦ : Φ (some (.int (dnO 20001 a b))) g P I) : MM Γ mX12_done d 0 0 [.int 20001, .int a, .int b] g P I Φ := by
  by_cases h1 : a = 0
  · rw [← dn_1f (Or.inl h1)] at hΦ
    refine MM_entry [some _, some _, some _] (by decide) (Nat.le_of_ble_eq_true rfl) rfl ?_
    refine E_iload_n (i := 0) dX12_done_0 rfl rfl ?_
    refine E_tswIn (tgt := 66) dX12_done_1 (by decide) (by decide) rfl (by decide) ?_
    refine E_iload_n (i := 1) dX12_done_66 rfl rfl ?_
    refine E_if_eq (tgt := 78) dX12_done_67 (by decide) (fun c_67 => ?_) (fun c_67 => absurd (h1) c_67)
    refine E_iconst (v := 0) dX12_done_78 (by decide) ?_
    refine E_iret dX12_done_79 rfl ?_
    exact hΦ
  · by_cases h2 : b = 0
    · rw [← dn_1f (Or.inr h2)] at hΦ
      refine MM_entry [some _, some _, some _] (by decide) (Nat.le_of_ble_eq_true rfl) rfl ?_
      refine E_iload_n (i := 0) dX12_done_0 rfl rfl ?_
      refine E_tswIn (tgt := 66) dX12_done_1 (by decide) (by decide) rfl (by decide) ?_
      refine E_iload_n (i := 1) dX12_done_66 rfl rfl ?_
      refine E_if_eq (tgt := 78) dX12_done_67 (by decide) (fun c_67 => absurd c_67 (h1)) (fun c_67 => ?_)
      refine E_iload_n (i := 2) dX12_done_70 rfl rfl ?_
      refine E_if_eq (tgt := 78) dX12_done_71 (by decide) (fun c_71 => ?_) (fun c_71 => absurd (h2) c_71)
      refine E_iconst (v := 0) dX12_done_78 (by decide) ?_
      refine E_iret dX12_done_79 rfl ?_
      exact hΦ
    · rw [← dn_1 h1 h2] at hΦ
      refine MM_entry [some _, some _, some _] (by decide) (Nat.le_of_ble_eq_true rfl) rfl ?_
      refine E_iload_n (i := 0) dX12_done_0 rfl rfl ?_
      refine E_tswIn (tgt := 66) dX12_done_1 (by decide) (by decide) rfl (by decide) ?_
      refine E_iload_n (i := 1) dX12_done_66 rfl rfl ?_
      refine E_if_eq (tgt := 78) dX12_done_67 (by decide) (fun c_67 => absurd c_67 (h1)) (fun c_67 => ?_)
      refine E_iload_n (i := 2) dX12_done_70 rfl rfl ?_
      refine E_if_eq (tgt := 78) dX12_done_71 (by decide) (fun c_71 => absurd c_71 (h2)) (fun c_71 => ?_)
      refine E_iconst (v := 1) dX12_done_74 (by decide) ?_
      refine E_goto (tgt := 79) dX12_done_75 (by decide) ?_
      refine E_iret dX12_done_79 rfl ?_
      exact hΦ
theorem done_2 {a b : Int32} (hΦ : Φ (some (.int (dnO 20002 a b))) g P I) : MM Γ mX12_done d 0 0 [.int 20002, .int a, .int b] g P I Φ := by
  rw [dn_2] at hΦ
  by_cases h1 : a < b
  · rw [bz_t h1] at hΦ
    refine MM_entry [some _, some _, some _] (by decide) (Nat.le_of_ble_eq_true rfl) rfl ?_
    refine E_iload_n (i := 0) dX12_done_0 rfl rfl ?_
    refine E_tswIn (tgt := 80) dX12_done_1 (by decide) (by decide) rfl (by decide) ?_
    refine E_iload_n (i := 1) dX12_done_80 rfl rfl ?_
    refine E_iload_n (i := 2) dX12_done_81 rfl rfl ?_
    refine E_icmp_ge (tgt := 89) dX12_done_82 (by decide) (fun c_82 => absurd c_82 (Int32.not_le.mpr h1)) (fun c_82 => ?_)
    refine E_iconst (v := 1) dX12_done_85 (by decide) ?_
    refine E_goto (tgt := 90) dX12_done_86 (by decide) ?_
    refine E_iret dX12_done_90 rfl ?_
    exact hΦ
  · rw [bz_f h1] at hΦ
    refine MM_entry [some _, some _, some _] (by decide) (Nat.le_of_ble_eq_true rfl) rfl ?_
    refine E_iload_n (i := 0) dX12_done_0 rfl rfl ?_
    refine E_tswIn (tgt := 80) dX12_done_1 (by decide) (by decide) rfl (by decide) ?_
    refine E_iload_n (i := 1) dX12_done_80 rfl rfl ?_
    refine E_iload_n (i := 2) dX12_done_81 rfl rfl ?_
    refine E_icmp_ge (tgt := 89) dX12_done_82 (by decide) (fun c_82 => ?_) (fun c_82 => absurd (Int32.not_lt.mp h1) c_82)
    refine E_iconst (v := 0) dX12_done_89 (by decide) ?_
    refine E_iret dX12_done_90 rfl ?_
    exact hΦ
theorem done_3 {a b : Int32} (hΦ : Φ (some (.int (dnO 20003 a b))) g P I) : MM Γ mX12_done d 0 0 [.int 20003, .int a, .int b] g P I Φ := by
  rw [dn_3] at hΦ
  by_cases h1 : a = b
  · rw [bz_t h1] at hΦ
    refine MM_entry [some _, some _, some _] (by decide) (Nat.le_of_ble_eq_true rfl) rfl ?_
    refine E_iload_n (i := 0) dX12_done_0 rfl rfl ?_
    refine E_tswIn (tgt := 91) dX12_done_1 (by decide) (by decide) rfl (by decide) ?_
    refine E_iload_n (i := 1) dX12_done_91 rfl rfl ?_
    refine E_iload_n (i := 2) dX12_done_92 rfl rfl ?_
    refine E_icmp_ne (tgt := 100) dX12_done_93 (by decide) (fun c_93 => absurd (h1) c_93) (fun c_93 => ?_)
    refine E_iconst (v := 1) dX12_done_96 (by decide) ?_
    refine E_goto (tgt := 101) dX12_done_97 (by decide) ?_
    refine E_iret dX12_done_101 rfl ?_
    exact hΦ
  · rw [bz_f h1] at hΦ
    refine MM_entry [some _, some _, some _] (by decide) (Nat.le_of_ble_eq_true rfl) rfl ?_
    refine E_iload_n (i := 0) dX12_done_0 rfl rfl ?_
    refine E_tswIn (tgt := 91) dX12_done_1 (by decide) (by decide) rfl (by decide) ?_
    refine E_iload_n (i := 1) dX12_done_91 rfl rfl ?_
    refine E_iload_n (i := 2) dX12_done_92 rfl rfl ?_
    refine E_icmp_ne (tgt := 100) dX12_done_93 (by decide) (fun c_93 => ?_) (fun c_93 => absurd c_93 (h1))
    refine E_iconst (v := 0) dX12_done_100 (by decide) ?_
    refine E_iret dX12_done_101 rfl ?_
    exact hΦ
theorem done_4 {a b : Int32} (hΦ : Φ (some (.int (dnO 20004 a b))) g P I) : MM Γ mX12_done d 0 0 [.int 20004, .int a, .int b] g P I Φ := by
  rw [dn_4] at hΦ
  by_cases h1 : b < a
  · rw [bz_t h1] at hΦ
    refine MM_entry [some _, some _, some _] (by decide) (Nat.le_of_ble_eq_true rfl) rfl ?_
    refine E_iload_n (i := 0) dX12_done_0 rfl rfl ?_
    refine E_tswIn (tgt := 102) dX12_done_1 (by decide) (by decide) rfl (by decide) ?_
    refine E_iload_n (i := 1) dX12_done_102 rfl rfl ?_
    refine E_iload_n (i := 2) dX12_done_103 rfl rfl ?_
    refine E_icmp_le (tgt := 111) dX12_done_104 (by decide) (fun c_104 => absurd c_104 (Int32.not_le.mpr h1)) (fun c_104 => ?_)
    refine E_iconst (v := 1) dX12_done_107 (by decide) ?_
    refine E_goto (tgt := 112) dX12_done_108 (by decide) ?_
    refine E_iret dX12_done_112 rfl ?_
    exact hΦ
  · rw [bz_f h1] at hΦ
    refine MM_entry [some _, some _, some _] (by decide) (Nat.le_of_ble_eq_true rfl) rfl ?_
    refine E_iload_n (i := 0) dX12_done_0 rfl rfl ?_
    refine E_tswIn (tgt := 102) dX12_done_1 (by decide) (by decide) rfl (by decide) ?_
    refine E_iload_n (i := 1) dX12_done_102 rfl rfl ?_
    refine E_iload_n (i := 2) dX12_done_103 rfl rfl ?_
    refine E_icmp_le (tgt := 111) dX12_done_104 (by decide) (fun c_104 => ?_) (fun c_104 => absurd (Int32.not_lt.mp h1) c_104)
    refine E_iconst (v := 0) dX12_done_111 (by decide) ?_
    refine E_iret dX12_done_112 rfl ?_
    exact hΦ
theorem done_5 {a b : Int32} (hΦ : Φ (some (.int (dnO 20005 a b))) g P I) : MM Γ mX12_done d 0 0 [.int 20005, .int a, .int b] g P I Φ := by
  rw [← dn_5] at hΦ
  refine MM_entry [some _, some _, some _] (by decide) (Nat.le_of_ble_eq_true rfl) rfl ?_
  refine E_iload_n (i := 0) dX12_done_0 rfl rfl ?_
  refine E_tswIn (tgt := 113) dX12_done_1 (by decide) (by decide) rfl (by decide) ?_
  refine E_iload_n (i := 1) dX12_done_113 rfl rfl ?_
  refine E_iload_n (i := 2) dX12_done_114 rfl rfl ?_
  refine E_iadd dX12_done_115 ?_
  refine E_iret dX12_done_116 rfl ?_
  exact hΦ
theorem done_6 {a b : Int32} (hΦ : Φ (some (.int (dnO 20006 a b))) g P I) : MM Γ mX12_done d 0 0 [.int 20006, .int a, .int b] g P I Φ := by
  rw [← dn_6] at hΦ
  refine MM_entry [some _, some _, some _] (by decide) (Nat.le_of_ble_eq_true rfl) rfl ?_
  refine E_iload_n (i := 0) dX12_done_0 rfl rfl ?_
  refine E_tswIn (tgt := 117) dX12_done_1 (by decide) (by decide) rfl (by decide) ?_
  refine E_iload_n (i := 1) dX12_done_117 rfl rfl ?_
  refine E_iload_n (i := 2) dX12_done_118 rfl rfl ?_
  refine E_isub dX12_done_119 ?_
  refine E_iret dX12_done_120 rfl ?_
  exact hΦ
theorem done_7 {a b : Int32} (hΦ : Φ (some (.int (dnO 20007 a b))) g P I) : MM Γ mX12_done d 0 0 [.int 20007, .int a, .int b] g P I Φ := by
  rw [← dn_7] at hΦ
  refine MM_entry [some _, some _, some _] (by decide) (Nat.le_of_ble_eq_true rfl) rfl ?_
  refine E_iload_n (i := 0) dX12_done_0 rfl rfl ?_
  refine E_tswIn (tgt := 121) dX12_done_1 (by decide) (by decide) rfl (by decide) ?_
  refine E_iload_n (i := 1) dX12_done_121 rfl rfl ?_
  refine E_iload_n (i := 2) dX12_done_122 rfl rfl ?_
  refine E_imul dX12_done_123 ?_
  refine E_iret dX12_done_124 rfl ?_
  exact hΦ
theorem done_8 {a b : Int32} (hΦ : Φ (some (.int (dnO 20008 a b))) g P I) : MM Γ mX12_done d 0 0 [.int 20008, .int a, .int b] g P I Φ := by
  by_cases h1 : b = 0
  · rw [← dn_8z h1] at hΦ
    refine MM_entry [some _, some _, some _] (by decide) (Nat.le_of_ble_eq_true rfl) rfl ?_
    refine E_iload_n (i := 0) dX12_done_0 rfl rfl ?_
    refine E_tswIn (tgt := 125) dX12_done_1 (by decide) (by decide) rfl (by decide) ?_
    refine E_iload_n (i := 2) dX12_done_125 rfl rfl ?_
    refine E_if_ne (tgt := 133) dX12_done_126 (by decide) (fun c_126 => absurd (h1) c_126) (fun c_126 => ?_)
    refine E_iconst (v := 0) dX12_done_129 (by decide) ?_
    refine E_goto (tgt := 136) dX12_done_130 (by decide) ?_
    refine E_iret dX12_done_136 rfl ?_
    exact hΦ
  · rw [← dn_8n h1] at hΦ
    refine MM_entry [some _, some _, some _] (by decide) (Nat.le_of_ble_eq_true rfl) rfl ?_
    refine E_iload_n (i := 0) dX12_done_0 rfl rfl ?_
    refine E_tswIn (tgt := 125) dX12_done_1 (by decide) (by decide) rfl (by decide) ?_
    refine E_iload_n (i := 2) dX12_done_125 rfl rfl ?_
    refine E_if_ne (tgt := 133) dX12_done_126 (by decide) (fun c_126 => ?_) (fun c_126 => absurd c_126 (h1))
    refine E_iload_n (i := 1) dX12_done_133 rfl rfl ?_
    refine E_iload_n (i := 2) dX12_done_134 rfl rfl ?_
    refine E_idiv dX12_done_135 h1 ?_
    refine E_iret dX12_done_136 rfl ?_
    exact hΦ
theorem done_9 {a b : Int32} (hΦ : Φ (some (.int (dnO 20009 a b))) g P I) : MM Γ mX12_done d 0 0 [.int 20009, .int a, .int b] g P I Φ := by
  by_cases h1 : b = 0
  · rw [← dn_9z h1] at hΦ
    refine MM_entry [some _, some _, some _] (by decide) (Nat.le_of_ble_eq_true rfl) rfl ?_
    refine E_iload_n (i := 0) dX12_done_0 rfl rfl ?_
    refine E_tswOut (tgt := 137) dX12_done_1 (by decide) (by decide) ?_
    refine E_iload_n (i := 2) dX12_done_137 rfl rfl ?_
    refine E_if_ne (tgt := 145) dX12_done_138 (by decide) (fun c_138 => absurd (h1) c_138) (fun c_138 => ?_)
    refine E_iconst (v := 0) dX12_done_141 (by decide) ?_
    refine E_goto (tgt := 148) dX12_done_142 (by decide) ?_
    refine E_iret dX12_done_148 rfl ?_
    exact hΦ
  · rw [← dn_9n h1] at hΦ
    refine MM_entry [some _, some _, some _] (by decide) (Nat.le_of_ble_eq_true rfl) rfl ?_
    refine E_iload_n (i := 0) dX12_done_0 rfl rfl ?_
    refine E_tswOut (tgt := 137) dX12_done_1 (by decide) (by decide) ?_
    refine E_iload_n (i := 2) dX12_done_137 rfl rfl ?_
    refine E_if_ne (tgt := 145) dX12_done_138 (by decide) (fun c_138 => ?_) (fun c_138 => absurd c_138 (h1))
    refine E_iload_n (i := 1) dX12_done_145 rfl rfl ?_
    refine E_iload_n (i := 2) dX12_done_146 rfl rfl ?_
    refine E_irem dX12_done_147 h1 ?_
    refine E_iret dX12_done_148 rfl ?_
    exact hΦ
theorem op_nat {c : Int32} (h1 : 20000 ≤ c) (h2 : c ≤ 20009) : ∃ k, k ≤ 9 ∧ c = nI (20000 + k) := by
  have a := i32_le.mp h1
  have b := i32_le.mp h2
  rw [show (20000 : Int32).toInt = 20000 from rfl] at a
  rw [show (20009 : Int32).toInt = 20009 from rfl] at b
  refine ⟨c.toInt.toNat - 20000, by omega, Int32.toInt_inj.mp ?_⟩
  rw [nI_toInt (by omega)]
  omega
theorem c_done {c a b : Int32} (h1 : 20000 ≤ c) (h2 : c ≤ 20009) (hΦ : Φ (some (.int (dnO c a b))) g P I) : MM Γ mX12_done d 0 0 [.int c, .int a, .int b] g P I Φ := by
  obtain ⟨k, hk, e⟩ := op_nat h1 h2
  subst e
  match k, hk with
  | 0, _ => exact done_0 hΦ
  | 1, _ => exact done_1 hΦ
  | 2, _ => exact done_2 hΦ
  | 3, _ => exact done_3 hΦ
  | 4, _ => exact done_4 hΦ
  | 5, _ => exact done_5 hΦ
  | 6, _ => exact done_6 hΦ
  | 7, _ => exact done_7 hΦ
  | 8, _ => exact done_8 hΦ
  | 9, _ => exact done_9 hΦ
theorem Mo.nmd (h : Mo g P) : P 109 14 = some 118 ∧ Cel g 118 13 ∧ g.2.2 118 = 4 := h.2.1 (14, 118, 4) (by decide)
theorem Mo.pil (h : Mo g P) : P 109 15 = some 119 ∧ Cel g 119 13 ∧ g.2.2 119 = 60 := h.2.1 (15, 119, 60) (by decide)
/-- the pile as the model has it -/
def Pil (K : HI) (s : List Int32) : Prop := ∀ j, j < s.length → K 119 j = s.getD (s.length - 1 - j) 0
theorem Pil.push {K : HI} {s : List Int32} {v : Int32} (h : Pil K s) : Pil (u2 K 119 s.length v) (v :: s) := by
  intro j hj
  have hj : j < s.length + 1 := hj
  show _ = (v :: s).getD (s.length + 1 - 1 - j) 0
  by_cases e : j = s.length
  · subst e
    rw [u2_s, show s.length + 1 - 1 - s.length = 0 by omega]
    rfl
  · rw [u2_o (fun q => e q.2), h j (by omega), show s.length + 1 - 1 - j = (s.length - 1 - j) + 1 by omega]
    rfl
theorem Pil.pop {K : HI} {s : List Int32} {v : Int32} (h : Pil K (v :: s)) : Pil K s := by
  intro j hj
  have := h j (Nat.lt_succ_of_lt hj)
  rw [this]
  show (v :: s).getD (s.length + 1 - 1 - j) 0 = _
  rw [show s.length + 1 - 1 - j = (s.length - 1 - j) + 1 by omega]
  rfl
theorem Pil.top {K : HI} {s : List Int32} {v : Int32} (h : Pil K (v :: s)) : K 119 s.length = v := by
  have := h s.length (Nat.lt_succ_self _)
  rw [this]
  show (v :: s).getD (s.length + 1 - 1 - s.length) 0 = v
  rw [show s.length + 1 - 1 - s.length = 0 by omega]
  rfl
theorem c_worked {u : Nat} {x : Int32} {δ : List Int32} {nm : Nat → Int32} (hd : 1 ≤ d) (hM : Mo g P) (hu : u ≤ 1) (hx : x = nI (169 + 52 * u)) (h1 : I 110 (168 + 52 * u) = nI δ.length) (h2 : ∀ i, i < δ.length → I 110 (169 + 52 * u + i) = δ.getD i 0) (h3 : hgt δ (some 0) = some 1) (h50 : δ.length ≤ 50) (hnm : ∀ i, i < 4 → I 118 i = nm i) (hΦ : ∀ J, (∀ a, a ≠ 119 → J a = I a) → Φ (some (.int (vof nm δ))) g P J) : MM Γ mX12_worked d 0 0 [.ref 109, .int x] g P I Φ := by
  refine MM_entry [some _, some _, none, none, none] (by decide) (Nat.le_of_ble_eq_true rfl) rfl ?_
  have h0 := hM.1
  obtain ⟨n1, n2, n3⟩ := hM.now
  obtain ⟨k1, k2, k3⟩ := hM.nmd
  obtain ⟨p1, p2, p3⟩ := hM.pil
  have hx1 : x - 1 = nI (168 + 52 * u) := by rw [hx, show 169 + 52 * u = (168 + 52 * u) + 1 by omega, nI_s1]
  have loop : ∀ (δ2 δ1 s : List Int32) (y z : Int32) (w : Option Value) (K : HI), δ = δ1 ++ δ2 → xec nm δ2 s = xec nm δ [] → hgt δ2 (some s.length) = some 1 → s.length ≤ δ1.length → y = nI s.length → z = nI (169 + 52 * u + δ1.length) → (∀ a, a ≠ 119 → K a = I a) → Pil K s → E Γ mX12_worked d 0 0 (QM Γ 0 0 Φ) 0 0 4 [some (.ref 109), some (.int x), some (.int y), some (.int z), w] [] g P K := by
    intro δ2
    induction δ2 with
    | nil =>
      intro δ1 s y z w K e1 e2 e3 e4 hy hz hK hP
      have e5 : s.length = 1 := Option.some.inj e3
      rw [List.append_nil] at e1
      have k110 : K 110 (168 + 52 * u) = nI δ.length := by rw [hK 110 (by decide)]; exact h1
      have hsum : x + K 110 (168 + 52 * u) = nI (169 + 52 * u + δ.length) := by rw [k110, hx, nI_add]
      have hv : K 119 0 = vof nm δ := by
        rw [hP 0 (by omega), e5]
        unfold vof
        rw [← e2]
        show s.getD 0 0 = s.headD 0
        cases s <;> rfl
      have hΦ := hΦ K hK
      rw [← hv] at hΦ
      refine E_iload_n (i := 3) dX12_worked_4 rfl rfl ?_
      refine E_iload_n (i := 1) dX12_worked_5 rfl rfl ?_
      refine E_aload_n (i := 0) dX12_worked_6 rfl rfl ?_
      refine E_gr dX12_worked_7 gf_X12_9_12 rfl (by assumption) (by assumption) ?_
      refine E_iload_n (i := 1) dX12_worked_10 rfl rfl ?_
      refine E_iconst (v := 1) dX12_worked_11 (by decide) ?_
      refine E_isub dX12_worked_12 ?_
      refine E_iaj (168 + 52 * u) dX12_worked_13 (by assumption) hx1 (by omega) (by rw [n3]; omega) ?_
      refine E_iadd dX12_worked_14 ?_
      rw [hsum]
      refine E_icmp_ge (tgt := 141) dX12_worked_15 (by decide) (fun c_15 => ?_) (fun c_15 => absurd (by rw [hz, ← e1]; exact Int32.le_refl _) c_15)
      refine E_aload_n (i := 0) dX12_worked_141 rfl rfl ?_
      refine E_gr dX12_worked_142 gf_X12_45_12 rfl (by assumption) (by assumption) ?_
      refine E_iconst (v := 0) dX12_worked_145 (by decide) ?_
      refine E_iaj 0 dX12_worked_146 (by assumption) rfl (by decide) (by rw [p3]; decide) ?_
      refine E_iret dX12_worked_147 rfl ?_
      exact hΦ
    | cons c δ2 ih =>
      intro δ1 s y z w K e1 e2 e3 e4 hy hz hK hP
      have hlen : δ.length = δ1.length + (δ2.length + 1) := by rw [e1, List.length_append]; rfl
      have k110 : K 110 (168 + 52 * u) = nI δ.length := by rw [hK 110 (by decide)]; exact h1
      have hsum : x + K 110 (168 + 52 * u) = nI (169 + 52 * u + δ.length) := by rw [k110, hx, nI_add]
      have hc : K 110 (169 + 52 * u + δ1.length) = c := by
        rw [hK 110 (by decide), h2 _ (by omega), e1]
        simp [List.getD_eq_getElem?_getD]
      have hno : ¬ nI (169 + 52 * u + δ.length) ≤ z := by rw [hz]; exact nI_ge (by omega) (by omega)
      have e1' : δ = (δ1 ++ [c]) ++ δ2 := by rw [e1, List.append_assoc]; rfl
      have l1 : (δ1 ++ [c]).length = δ1.length + 1 := by rw [List.length_append]; rfl
      have hz' : z + 1 = nI (169 + 52 * u + (δ1 ++ [c]).length) := by rw [hz, nI_1, l1]; rfl
      have e3' : hgt δ2 (hg1 (some s.length) c) = some 1 := e3
      have e2' : xec nm δ2 (xc1 nm s c) = xec nm δ [] := e2
      by_cases c1 : c < 20000
      · by_cases c2 : c < 10000
        · have g1 : hg1 (some s.length) c = some (s.length + 1) := by
            show (if c < 20000 then (if c < 10000 ∨ (10000 ≤ c ∧ c < 10004) then some (s.length + 1) else none) else _) = _
            rw [if_pos c1, if_pos (Or.inl c2)]
          have x1 : xc1 nm s c = c :: s := by unfold xc1; rw [if_pos c1, if_pos c2]
          rw [g1] at e3'
          rw [x1] at e2'
          refine E_iload_n (i := 3) dX12_worked_4 rfl rfl ?_
          refine E_iload_n (i := 1) dX12_worked_5 rfl rfl ?_
          refine E_aload_n (i := 0) dX12_worked_6 rfl rfl ?_
          refine E_gr dX12_worked_7 gf_X12_9_12 rfl (by assumption) (by assumption) ?_
          refine E_iload_n (i := 1) dX12_worked_10 rfl rfl ?_
          refine E_iconst (v := 1) dX12_worked_11 (by decide) ?_
          refine E_isub dX12_worked_12 ?_
          refine E_iaj (168 + 52 * u) dX12_worked_13 (by assumption) hx1 (by omega) (by rw [n3]; omega) ?_
          refine E_iadd dX12_worked_14 ?_
          rw [hsum]
          refine E_icmp_ge (tgt := 141) dX12_worked_15 (by decide) (fun c_15 => absurd c_15 (hno)) (fun c_15 => ?_)
          refine E_aload_n (i := 0) dX12_worked_18 rfl rfl ?_
          refine E_gr dX12_worked_19 gf_X12_9_12 rfl (by assumption) (by assumption) ?_
          refine E_iload_n (i := 3) dX12_worked_22 rfl rfl ?_
          refine E_iaj (169 + 52 * u + δ1.length) dX12_worked_23 (by assumption) hz (by omega) (by rw [n3]; omega) ?_
          rw [hc]
          refine E_istoreC dX12_worked_24 (by decide) rfl ?_
          refine E_lv (lv' := [_, _, _, _, _]) rfl ?_
          refine E_iload dX12_worked_26 rfl ?_
          refine E_sipush (v := 20000) dX12_worked_28 (by decide) ?_
          refine E_icmp_ge (tgt := 70) dX12_worked_31 (by decide) (fun c_31 => absurd c_31 (Int32.not_le.mpr c1)) (fun c_31 => ?_)
          refine E_aload_n (i := 0) dX12_worked_34 rfl rfl ?_
          refine E_gr dX12_worked_35 gf_X12_45_12 rfl (by assumption) (by assumption) ?_
          refine E_iload_n (i := 2) dX12_worked_38 rfl rfl ?_
          refine E_iload dX12_worked_39 rfl ?_
          refine E_sipush (v := 10000) dX12_worked_41 (by decide) ?_
          refine E_icmp_ge (tgt := 52) dX12_worked_44 (by decide) (fun c_44 => absurd c_44 (Int32.not_le.mpr c2)) (fun c_44 => ?_)
          refine E_iload dX12_worked_47 rfl ?_
          refine E_goto (tgt := 63) dX12_worked_49 (by decide) ?_
          refine E_isj s.length dX12_worked_63 (by assumption) hy (by first | decide | omega) (by rw [p3]; omega) ?_
          refine E_incC (c := 1) dX12_worked_64 rfl (by decide) (by decide) rfl ?_
          refine E_lv (lv' := [_, _, _, _, _]) rfl ?_
          refine E_goto (tgt := 135) dX12_worked_67 (by decide) ?_
          refine E_incC (c := 1) dX12_worked_135 rfl (by decide) (by decide) rfl ?_
          refine E_lv (lv' := [_, _, _, _, _]) rfl ?_
          refine E_goto (tgt := 4) dX12_worked_138 (by decide) ?_
          exact ih (δ1 ++ [c]) (c :: s) _ _ _ _ e1' e2' e3' (by rw [l1]; exact Nat.succ_le_succ e4) (by rw [hy, nI_1]; rfl) hz' (fun a ha => by rw [u2_oth _ ha]; exact hK a ha) hP.push
        · by_cases c3 : c < 10004
          · have c4 := Int32.not_lt.mp c2
            obtain ⟨j, j4, ej⟩ : ∃ j, j < 4 ∧ c = nI (10000 + j) := by
              have a := i32_le.mp c4
              have b := i32_lt.mp c3
              rw [show (10000 : Int32).toInt = 10000 from rfl] at a
              rw [show (10004 : Int32).toInt = 10004 from rfl] at b
              refine ⟨c.toInt.toNat - 10000, by omega, Int32.toInt_inj.mp ?_⟩
              rw [nI_toInt (by omega)]
              omega
            have ej2 : c - 10000 = nI j := by rw [ej]; exact (pk_sub (a := 10000 + j) (b := 10000) (by omega)).trans (by rw [Nat.add_sub_cancel_left])
            have g1 : hg1 (some s.length) c = some (s.length + 1) := by
              show (if c < 20000 then (if c < 10000 ∨ (10000 ≤ c ∧ c < 10004) then some (s.length + 1) else none) else _) = _
              rw [if_pos c1, if_pos (Or.inr ⟨c4, c3⟩)]
            have x1 : xc1 nm s c = nm j :: s := by unfold xc1; rw [if_pos c1, if_neg c2, ej2, nI_clamp (by omega)]
            rw [g1] at e3'
            rw [x1] at e2'
            have kn : K 118 j = nm j := by rw [hK 118 (by decide)]; exact hnm j j4
            refine E_iload_n (i := 3) dX12_worked_4 rfl rfl ?_
            refine E_iload_n (i := 1) dX12_worked_5 rfl rfl ?_
            refine E_aload_n (i := 0) dX12_worked_6 rfl rfl ?_
            refine E_gr dX12_worked_7 gf_X12_9_12 rfl (by assumption) (by assumption) ?_
            refine E_iload_n (i := 1) dX12_worked_10 rfl rfl ?_
            refine E_iconst (v := 1) dX12_worked_11 (by decide) ?_
            refine E_isub dX12_worked_12 ?_
            refine E_iaj (168 + 52 * u) dX12_worked_13 (by assumption) hx1 (by omega) (by rw [n3]; omega) ?_
            refine E_iadd dX12_worked_14 ?_
            rw [hsum]
            refine E_icmp_ge (tgt := 141) dX12_worked_15 (by decide) (fun c_15 => absurd c_15 (hno)) (fun c_15 => ?_)
            refine E_aload_n (i := 0) dX12_worked_18 rfl rfl ?_
            refine E_gr dX12_worked_19 gf_X12_9_12 rfl (by assumption) (by assumption) ?_
            refine E_iload_n (i := 3) dX12_worked_22 rfl rfl ?_
            refine E_iaj (169 + 52 * u + δ1.length) dX12_worked_23 (by assumption) hz (by omega) (by rw [n3]; omega) ?_
            rw [hc]
            refine E_istoreC dX12_worked_24 (by decide) rfl ?_
            refine E_lv (lv' := [_, _, _, _, _]) rfl ?_
            refine E_iload dX12_worked_26 rfl ?_
            refine E_sipush (v := 20000) dX12_worked_28 (by decide) ?_
            refine E_icmp_ge (tgt := 70) dX12_worked_31 (by decide) (fun c_31 => absurd c_31 (Int32.not_le.mpr c1)) (fun c_31 => ?_)
            refine E_aload_n (i := 0) dX12_worked_34 rfl rfl ?_
            refine E_gr dX12_worked_35 gf_X12_45_12 rfl (by assumption) (by assumption) ?_
            refine E_iload_n (i := 2) dX12_worked_38 rfl rfl ?_
            refine E_iload dX12_worked_39 rfl ?_
            refine E_sipush (v := 10000) dX12_worked_41 (by decide) ?_
            refine E_icmp_ge (tgt := 52) dX12_worked_44 (by decide) (fun c_44 => ?_) (fun c_44 => absurd (c4) c_44)
            refine E_aload_n (i := 0) dX12_worked_52 rfl rfl ?_
            refine E_gr dX12_worked_53 gf_X12_42_12 rfl (by assumption) (by assumption) ?_
            refine E_iload dX12_worked_56 rfl ?_
            refine E_sipush (v := 10000) dX12_worked_58 (by decide) ?_
            refine E_isub dX12_worked_61 ?_
            refine E_iaj j dX12_worked_62 (by assumption) ej2 (by omega) (by rw [k3]; omega) ?_
            rw [kn]
            refine E_isj s.length dX12_worked_63 (by assumption) hy (by first | decide | omega) (by rw [p3]; omega) ?_
            refine E_incC (c := 1) dX12_worked_64 rfl (by decide) (by decide) rfl ?_
            refine E_lv (lv' := [_, _, _, _, _]) rfl ?_
            refine E_goto (tgt := 135) dX12_worked_67 (by decide) ?_
            refine E_incC (c := 1) dX12_worked_135 rfl (by decide) (by decide) rfl ?_
            refine E_lv (lv' := [_, _, _, _, _]) rfl ?_
            refine E_goto (tgt := 4) dX12_worked_138 (by decide) ?_
            exact ih (δ1 ++ [c]) (nm j :: s) _ _ _ _ e1' e2' e3' (by rw [l1]; exact Nat.succ_le_succ e4) (by rw [hy, nI_1]; rfl) hz' (fun a ha => by rw [u2_oth _ ha]; exact hK a ha) hP.push
          · have g1 : hg1 (some s.length) c = none := by
              show (if c < 20000 then (if c < 10000 ∨ (10000 ≤ c ∧ c < 10004) then some (s.length + 1) else none) else _) = _
              rw [if_pos c1, if_neg (fun h => h.elim c2 (fun h => c3 h.2))]
            rw [g1, hgt_none] at e3'
            cases e3'
      · have c1' := Int32.not_lt.mp c1
        by_cases c5 : c = 20010
        · match s, e4, hy, hP, e2', e3' with
          | [], _, _, _, _, e3' =>
            have g1 : hg1 (some 0) c = none := by rw [c5]; rfl
            rw [show ([] : List Int32).length = 0 from rfl, g1, hgt_none] at e3'
            cases e3'
          | a :: s, e4, hy, hP, e2', e3' =>
            have g1 : hg1 (some (a :: s).length) c = some (a :: s).length := by rw [c5]; rfl
            have x1 : xc1 nm (a :: s) c = (if a = 0 then 1 else 0) :: s := by rw [c5]; rfl
            rw [g1] at e3'
            rw [x1] at e2'
            have hl1 : (a :: s).length = s.length + 1 := rfl
            have hy1 : y - 1 = nI s.length := by rw [hy, hl1, nI_s1]
            have ht := hP.top
            by_cases ha : a = 0
            · rw [if_pos ha] at e2'
              refine E_iload_n (i := 3) dX12_worked_4 rfl rfl ?_
              refine E_iload_n (i := 1) dX12_worked_5 rfl rfl ?_
              refine E_aload_n (i := 0) dX12_worked_6 rfl rfl ?_
              refine E_gr dX12_worked_7 gf_X12_9_12 rfl (by assumption) (by assumption) ?_
              refine E_iload_n (i := 1) dX12_worked_10 rfl rfl ?_
              refine E_iconst (v := 1) dX12_worked_11 (by decide) ?_
              refine E_isub dX12_worked_12 ?_
              refine E_iaj (168 + 52 * u) dX12_worked_13 (by assumption) hx1 (by omega) (by rw [n3]; omega) ?_
              refine E_iadd dX12_worked_14 ?_
              rw [hsum]
              refine E_icmp_ge (tgt := 141) dX12_worked_15 (by decide) (fun c_15 => absurd c_15 (hno)) (fun c_15 => ?_)
              refine E_aload_n (i := 0) dX12_worked_18 rfl rfl ?_
              refine E_gr dX12_worked_19 gf_X12_9_12 rfl (by assumption) (by assumption) ?_
              refine E_iload_n (i := 3) dX12_worked_22 rfl rfl ?_
              refine E_iaj (169 + 52 * u + δ1.length) dX12_worked_23 (by assumption) hz (by omega) (by rw [n3]; omega) ?_
              rw [hc]
              refine E_istoreC dX12_worked_24 (by decide) rfl ?_
              refine E_lv (lv' := [_, _, _, _, _]) rfl ?_
              refine E_iload dX12_worked_26 rfl ?_
              refine E_sipush (v := 20000) dX12_worked_28 (by decide) ?_
              refine E_icmp_ge (tgt := 70) dX12_worked_31 (by decide) (fun c_31 => ?_) (fun c_31 => absurd (c1') c_31)
              refine E_iload dX12_worked_70 rfl ?_
              refine E_sipush (v := 20010) dX12_worked_72 (by decide) ?_
              refine E_icmp_ne (tgt := 105) dX12_worked_75 (by decide) (fun c_75 => absurd (c5) c_75) (fun c_75 => ?_)
              refine E_aload_n (i := 0) dX12_worked_78 rfl rfl ?_
              refine E_gr dX12_worked_79 gf_X12_45_12 rfl (by assumption) (by assumption) ?_
              refine E_iload_n (i := 2) dX12_worked_82 rfl rfl ?_
              refine E_iconst (v := 1) dX12_worked_83 (by decide) ?_
              refine E_isub dX12_worked_84 ?_
              refine E_aload_n (i := 0) dX12_worked_85 rfl rfl ?_
              refine E_gr dX12_worked_86 gf_X12_45_12 rfl (by assumption) (by assumption) ?_
              refine E_iload_n (i := 2) dX12_worked_89 rfl rfl ?_
              refine E_iconst (v := 1) dX12_worked_90 (by decide) ?_
              refine E_isub dX12_worked_91 ?_
              refine E_iaj s.length dX12_worked_92 (by assumption) hy1 (by omega) (by rw [p3]; omega) ?_
              rw [ht]
              refine E_if_ne (tgt := 100) dX12_worked_93 (by decide) (fun c_93 => absurd (ha) c_93) (fun c_93 => ?_)
              refine E_iconst (v := 1) dX12_worked_96 (by decide) ?_
              refine E_goto (tgt := 101) dX12_worked_97 (by decide) ?_
              refine E_isj s.length dX12_worked_101 (by assumption) hy1 (by first | decide | omega) (by rw [p3]; omega) ?_
              refine E_goto (tgt := 135) dX12_worked_102 (by decide) ?_
              refine E_incC (c := 1) dX12_worked_135 rfl (by decide) (by decide) rfl ?_
              refine E_lv (lv' := [_, _, _, _, _]) rfl ?_
              refine E_goto (tgt := 4) dX12_worked_138 (by decide) ?_
              exact ih (δ1 ++ [c]) (1 :: s) _ _ _ _ e1' e2' e3' (by rw [l1]; exact Nat.le_succ_of_le e4) hy hz' (fun a ha => by rw [u2_oth _ ha]; exact hK a ha) hP.pop.push
            · rw [if_neg ha] at e2'
              refine E_iload_n (i := 3) dX12_worked_4 rfl rfl ?_
              refine E_iload_n (i := 1) dX12_worked_5 rfl rfl ?_
              refine E_aload_n (i := 0) dX12_worked_6 rfl rfl ?_
              refine E_gr dX12_worked_7 gf_X12_9_12 rfl (by assumption) (by assumption) ?_
              refine E_iload_n (i := 1) dX12_worked_10 rfl rfl ?_
              refine E_iconst (v := 1) dX12_worked_11 (by decide) ?_
              refine E_isub dX12_worked_12 ?_
              refine E_iaj (168 + 52 * u) dX12_worked_13 (by assumption) hx1 (by omega) (by rw [n3]; omega) ?_
              refine E_iadd dX12_worked_14 ?_
              rw [hsum]
              refine E_icmp_ge (tgt := 141) dX12_worked_15 (by decide) (fun c_15 => absurd c_15 (hno)) (fun c_15 => ?_)
              refine E_aload_n (i := 0) dX12_worked_18 rfl rfl ?_
              refine E_gr dX12_worked_19 gf_X12_9_12 rfl (by assumption) (by assumption) ?_
              refine E_iload_n (i := 3) dX12_worked_22 rfl rfl ?_
              refine E_iaj (169 + 52 * u + δ1.length) dX12_worked_23 (by assumption) hz (by omega) (by rw [n3]; omega) ?_
              rw [hc]
              refine E_istoreC dX12_worked_24 (by decide) rfl ?_
              refine E_lv (lv' := [_, _, _, _, _]) rfl ?_
              refine E_iload dX12_worked_26 rfl ?_
              refine E_sipush (v := 20000) dX12_worked_28 (by decide) ?_
              refine E_icmp_ge (tgt := 70) dX12_worked_31 (by decide) (fun c_31 => ?_) (fun c_31 => absurd (c1') c_31)
              refine E_iload dX12_worked_70 rfl ?_
              refine E_sipush (v := 20010) dX12_worked_72 (by decide) ?_
              refine E_icmp_ne (tgt := 105) dX12_worked_75 (by decide) (fun c_75 => absurd (c5) c_75) (fun c_75 => ?_)
              refine E_aload_n (i := 0) dX12_worked_78 rfl rfl ?_
              refine E_gr dX12_worked_79 gf_X12_45_12 rfl (by assumption) (by assumption) ?_
              refine E_iload_n (i := 2) dX12_worked_82 rfl rfl ?_
              refine E_iconst (v := 1) dX12_worked_83 (by decide) ?_
              refine E_isub dX12_worked_84 ?_
              refine E_aload_n (i := 0) dX12_worked_85 rfl rfl ?_
              refine E_gr dX12_worked_86 gf_X12_45_12 rfl (by assumption) (by assumption) ?_
              refine E_iload_n (i := 2) dX12_worked_89 rfl rfl ?_
              refine E_iconst (v := 1) dX12_worked_90 (by decide) ?_
              refine E_isub dX12_worked_91 ?_
              refine E_iaj s.length dX12_worked_92 (by assumption) hy1 (by omega) (by rw [p3]; omega) ?_
              rw [ht]
              refine E_if_ne (tgt := 100) dX12_worked_93 (by decide) (fun c_93 => ?_) (fun c_93 => absurd c_93 (ha))
              refine E_iconst (v := 0) dX12_worked_100 (by decide) ?_
              refine E_isj s.length dX12_worked_101 (by assumption) hy1 (by first | decide | omega) (by rw [p3]; omega) ?_
              refine E_goto (tgt := 135) dX12_worked_102 (by decide) ?_
              refine E_incC (c := 1) dX12_worked_135 rfl (by decide) (by decide) rfl ?_
              refine E_lv (lv' := [_, _, _, _, _]) rfl ?_
              refine E_goto (tgt := 4) dX12_worked_138 (by decide) ?_
              exact ih (δ1 ++ [c]) (0 :: s) _ _ _ _ e1' e2' e3' (by rw [l1]; exact Nat.le_succ_of_le e4) hy hz' (fun a ha => by rw [u2_oth _ ha]; exact hK a ha) hP.pop.push
        · have gg : ∀ h, hg1 (some h) c = if 20000 ≤ c ∧ c ≤ 20009 ∧ 2 ≤ h then some (h - 1) else none := by
            intro h
            show (if c < 20000 then _ else if c = 20010 then _ else _) = _
            rw [if_neg c1, if_neg c5]
          by_cases c6 : c ≤ 20009 ∧ 2 ≤ s.length
          · match s, c6, e4, hy, hP, e2', e3' with
            | [], c6, _, _, _, _, _ => exact absurd c6.2 (by decide)
            | [b], c6, _, _, _, _, _ => exact absurd c6.2 (show ¬ 2 ≤ 1 by decide)
            | b :: a :: s, c6, e4, hy, hP, e2', e3' =>
              rw [gg, if_pos ⟨c1', c6⟩] at e3'
              have x1 : xc1 nm (b :: a :: s) c = dnO c a b :: s := xc_op c1' c6.1
              rw [x1] at e2'
              have hl1 : (b :: a :: s).length = s.length + 1 + 1 := rfl
              have hy0 : y + (-1) = nI (s.length + 1) := by rw [hy, hl1, nI_dec]
              have hy1 : y + (-1) - 1 = nI s.length := by rw [hy0, nI_s1]
              have ht : K 119 (s.length + 1) = b := hP.top
              have ht2 : K 119 s.length = a := hP.pop.top
              have hs60 : s.length + 1 < 60 := by have : (b :: a :: s).length ≤ δ1.length := e4; rw [hl1] at this; omega
              refine E_iload_n (i := 3) dX12_worked_4 rfl rfl ?_
              refine E_iload_n (i := 1) dX12_worked_5 rfl rfl ?_
              refine E_aload_n (i := 0) dX12_worked_6 rfl rfl ?_
              refine E_gr dX12_worked_7 gf_X12_9_12 rfl (by assumption) (by assumption) ?_
              refine E_iload_n (i := 1) dX12_worked_10 rfl rfl ?_
              refine E_iconst (v := 1) dX12_worked_11 (by decide) ?_
              refine E_isub dX12_worked_12 ?_
              refine E_iaj (168 + 52 * u) dX12_worked_13 (by assumption) hx1 (by omega) (by rw [n3]; omega) ?_
              refine E_iadd dX12_worked_14 ?_
              rw [hsum]
              refine E_icmp_ge (tgt := 141) dX12_worked_15 (by decide) (fun c_15 => absurd c_15 (hno)) (fun c_15 => ?_)
              refine E_aload_n (i := 0) dX12_worked_18 rfl rfl ?_
              refine E_gr dX12_worked_19 gf_X12_9_12 rfl (by assumption) (by assumption) ?_
              refine E_iload_n (i := 3) dX12_worked_22 rfl rfl ?_
              refine E_iaj (169 + 52 * u + δ1.length) dX12_worked_23 (by assumption) hz (by omega) (by rw [n3]; omega) ?_
              rw [hc]
              refine E_istoreC dX12_worked_24 (by decide) rfl ?_
              refine E_lv (lv' := [_, _, _, _, _]) rfl ?_
              refine E_iload dX12_worked_26 rfl ?_
              refine E_sipush (v := 20000) dX12_worked_28 (by decide) ?_
              refine E_icmp_ge (tgt := 70) dX12_worked_31 (by decide) (fun c_31 => ?_) (fun c_31 => absurd (c1') c_31)
              refine E_iload dX12_worked_70 rfl ?_
              refine E_sipush (v := 20010) dX12_worked_72 (by decide) ?_
              refine E_icmp_ne (tgt := 105) dX12_worked_75 (by decide) (fun c_75 => ?_) (fun c_75 => absurd c_75 (c5))
              refine E_incC (c := -1) dX12_worked_105 rfl (by decide) (by decide) rfl ?_
              refine E_lv (lv' := [_, _, _, _, _]) rfl ?_
              refine E_aload_n (i := 0) dX12_worked_108 rfl rfl ?_
              refine E_gr dX12_worked_109 gf_X12_45_12 rfl (by assumption) (by assumption) ?_
              refine E_iload_n (i := 2) dX12_worked_112 rfl rfl ?_
              refine E_iconst (v := 1) dX12_worked_113 (by decide) ?_
              refine E_isub dX12_worked_114 ?_
              refine E_iload dX12_worked_115 rfl ?_
              refine E_aload_n (i := 0) dX12_worked_117 rfl rfl ?_
              refine E_gr dX12_worked_118 gf_X12_45_12 rfl (by assumption) (by assumption) ?_
              refine E_iload_n (i := 2) dX12_worked_121 rfl rfl ?_
              refine E_iconst (v := 1) dX12_worked_122 (by decide) ?_
              refine E_isub dX12_worked_123 ?_
              refine E_iaj s.length dX12_worked_124 (by assumption) hy1 (by omega) (by rw [p3]; omega) ?_
              rw [ht2]
              refine E_aload_n (i := 0) dX12_worked_125 rfl rfl ?_
              refine E_gr dX12_worked_126 gf_X12_45_12 rfl (by assumption) (by assumption) ?_
              refine E_iload_n (i := 2) dX12_worked_129 rfl rfl ?_
              refine E_iaj (s.length + 1) dX12_worked_130 (by assumption) hy0 (by omega) (by rw [p3]; omega) ?_
              rw [ht]
              refine k_X12_worked_131 (mc' := 0) (ms' := 0) (rc := 0) (rs := 0) (by omega) (Nat.le_of_ble_eq_true rfl) (c_done c1' c6.1 ?_)
              refine E_isj s.length dX12_worked_134 (by assumption) hy1 (by first | decide | omega) (by rw [p3]; omega) ?_
              refine E_incC (c := 1) dX12_worked_135 rfl (by decide) (by decide) rfl ?_
              refine E_lv (lv' := [_, _, _, _, _]) rfl ?_
              refine E_goto (tgt := 4) dX12_worked_138 (by decide) ?_
              exact ih (δ1 ++ [c]) (dnO c a b :: s) _ _ _ _ e1' e2' e3' (by rw [l1]; show s.length + 1 ≤ _; have : (b :: a :: s).length ≤ δ1.length := e4; rw [hl1] at this; omega) hy0 hz' (fun a ha => by rw [u2_oth _ ha]; exact hK a ha) hP.pop.pop.push
          · rw [gg, if_neg (fun h => c6 h.2), hgt_none] at e3'
            cases e3'
  refine E_iconst (v := 0) dX12_worked_0 (by decide) ?_
  refine E_istore_nC (i := 2) dX12_worked_1 rfl (by decide) rfl ?_
  refine E_lv (lv' := [_, _, _, _, _]) rfl ?_
  refine E_iload_n (i := 1) dX12_worked_2 rfl rfl ?_
  refine E_istore_nC (i := 3) dX12_worked_3 rfl (by decide) rfl ?_
  refine E_lv (lv' := [_, _, _, _, _]) rfl ?_
  exact loop δ [] [] _ _ _ _ rfl rfl h3 (Nat.le_refl _) rfl (by rw [hx]; rfl) (fun _ _ => rfl) (fun j hj => absurd hj (Nat.not_lt_zero _))
/-- what the model holds for a use -/
def TC (u : Nat) (δ : List Int32) (M : Nat → Int32) : Prop := (hgt δ (some 0) = some 1 ∧ δ.length ≤ 50) ∧ ((M (168 + 52 * u) = 0 ∧ δ = dfc u) ∨ (0 < δ.length ∧ M (168 + 52 * u) = nI δ.length ∧ ∀ i, i < δ.length → M (169 + 52 * u + i) = δ.getD i 0))
theorem c_X12_given {u : Nat} {x a b c e : Int32} {δ : List Int32} (hd : 2 ≤ d) (hM : Mo g P) (hu : u ≤ 1) (hx : x = nI u) (hT : TC u δ (I 110)) (hΦ : ∀ J, (∀ k, k ≠ 118 → k ≠ 119 → J k = I k) → Φ (some (.int (gvl u δ a b c e))) g P J) : MM Γ mX12_given d 0 0 [.ref 109, .int x, .int a, .int b, .int c, .int e] g P I Φ := by
  refine MM_entry [some _, some _, some _, some _, some _, some _, none, none] (by decide) (Nat.le_of_ble_eq_true rfl) rfl ?_
  have h0 := hM.1
  obtain ⟨n1, n2, n3⟩ := hM.now
  obtain ⟨k1, k2, k3⟩ := hM.nmd
  generalize hI1 : u2 (u2 (u2 (u2 I 118 0 a) 118 1 b) 118 2 c) 118 3 e = I1
  have i1 : ∀ k, k ≠ 118 → I1 k = I k := fun k hk => by rw [← hI1, u2_oth _ hk, u2_oth _ hk, u2_oth _ hk, u2_oth _ hk]
  have hnm : ∀ i, i < 4 → I1 118 i = nm4 a b c e i := by
    intro i hi
    rw [← hI1]
    match i, hi with
    | 0, _ => rw [u2_o (by decide), u2_o (by decide), u2_o (by decide), u2_s]; rfl
    | 1, _ => rw [u2_o (by decide), u2_o (by decide), u2_s]; rfl
    | 2, _ => rw [u2_o (by decide), u2_s]; rfl
    | 3, _ => rw [u2_s]; rfl
  have hfrom : (168 : Int32) + 52 * x + 1 = nI (169 + 52 * u) := by rw [hx, show (52 : Int32) * nI u = nI (52 * u) from pk_mul 52 u, show (168 : Int32) + nI (52 * u) = nI (168 + 52 * u) from nI_add 168 _, nI_1]; congr 1; omega
  have hf1 : nI (169 + 52 * u) - 1 = nI (168 + 52 * u) := by rw [show 169 + 52 * u = (168 + 52 * u) + 1 by omega, nI_s1]
  have hx0 : x = 0 ↔ u = 0 := by rw [hx]; exact nI_eq (b := 0) (by omega) (by omega)
  have e168 : I1 110 (168 + 52 * u) = I 110 (168 + 52 * u) := by rw [i1 110 (by decide)]
  obtain ⟨⟨t1, t2⟩, t3⟩ := hT
  have tail : ∀ (v : Int32) (J : HI) (f : Int32), (∀ k, k ≠ 118 → k ≠ 119 → J k = I k) → v = vof (nm4 a b c e) δ → E Γ mX12_given d 0 0 (QM Γ 0 0 Φ) 0 0 103 [some (.ref 109), some (.int x), some (.int a), some (.int b), some (.int c), some (.int e), some (.int f), some (.int v)] [] g P J := by
    intro v J f hJ hv
    have hΦ := hΦ J hJ
    unfold gvl at hΦ
    rw [← hv] at hΦ
    by_cases h : u = 0
    · rw [if_pos h] at hΦ
      refine E_iload_n (i := 1) dX12_given_103 rfl rfl ?_
      refine E_if_ne (tgt := 118) dX12_given_104 (by decide) (fun c_104 => absurd (hx0.mpr h) c_104) (fun c_104 => ?_)
      refine E_iload dX12_given_107 rfl ?_
      refine E_iconst (v := 0) dX12_given_109 (by decide) ?_
      refine E_bipush (v := 99) dX12_given_110 (by decide) ?_
      refine k_X12_given_112 (mc' := 0) (ms' := 0) (rc := 0) (rs := 0) (by omega) (Nat.le_of_ble_eq_true rfl) (c_X12_held (by omega) ?_)
      refine E_goto (tgt := 120) dX12_given_115 (by decide) ?_
      refine E_iret dX12_given_120 rfl ?_
      exact hΦ
    · rw [if_neg h] at hΦ
      refine E_iload_n (i := 1) dX12_given_103 rfl rfl ?_
      refine E_if_ne (tgt := 118) dX12_given_104 (by decide) (fun c_104 => ?_) (fun c_104 => absurd c_104 (fun q => h (hx0.mp q)))
      refine E_iload dX12_given_118 rfl ?_
      refine E_iret dX12_given_120 rfl ?_
      exact hΦ
  rcases t3 with ⟨m0, hδ⟩ | ⟨hl, m1, m2⟩
  · have z0 : I1 110 (168 + 52 * u) ≤ 0 := by rw [e168, m0]; exact Int32.le_refl _
    by_cases h : u = 0
    · have hv : ∀ z : Int32, z = bz (100 < b) → a / 100 + z = vof (nm4 a b c e) δ := fun z hz => by rw [hδ, h, df0, hz]
      refine E_aload_n (i := 0) dX12_given_0 rfl rfl ?_
      refine E_gr dX12_given_1 gf_X12_42_12 rfl (by assumption) (by assumption) ?_
      refine E_iconst (v := 0) dX12_given_4 (by decide) ?_
      refine E_iload_n (i := 2) dX12_given_5 rfl rfl ?_
      refine E_isj 0 dX12_given_6 (by assumption) rfl (by first | decide | omega) (by rw [k3]; decide) ?_
      refine E_aload_n (i := 0) dX12_given_7 rfl rfl ?_
      refine E_gr dX12_given_8 gf_X12_42_12 rfl (by assumption) (by assumption) ?_
      refine E_iconst (v := 1) dX12_given_11 (by decide) ?_
      refine E_iload_n (i := 3) dX12_given_12 rfl rfl ?_
      refine E_isj 1 dX12_given_13 (by assumption) rfl (by first | decide | omega) (by rw [k3]; decide) ?_
      refine E_aload_n (i := 0) dX12_given_14 rfl rfl ?_
      refine E_gr dX12_given_15 gf_X12_42_12 rfl (by assumption) (by assumption) ?_
      refine E_iconst (v := 2) dX12_given_18 (by decide) ?_
      refine E_iload dX12_given_19 rfl ?_
      refine E_isj 2 dX12_given_21 (by assumption) rfl (by first | decide | omega) (by rw [k3]; decide) ?_
      refine E_aload_n (i := 0) dX12_given_22 rfl rfl ?_
      refine E_gr dX12_given_23 gf_X12_42_12 rfl (by assumption) (by assumption) ?_
      refine E_iconst (v := 3) dX12_given_26 (by decide) ?_
      refine E_iload dX12_given_27 rfl ?_
      refine E_isj 3 dX12_given_29 (by assumption) rfl (by first | decide | omega) (by rw [k3]; decide) ?_
      rw [hI1]
      refine E_sipush (v := 168) dX12_given_30 (by decide) ?_
      refine E_bipush (v := 52) dX12_given_33 (by decide) ?_
      refine E_iload_n (i := 1) dX12_given_35 rfl rfl ?_
      refine E_imul dX12_given_36 ?_
      refine E_iadd dX12_given_37 ?_
      refine E_iconst (v := 1) dX12_given_38 (by decide) ?_
      refine E_iadd dX12_given_39 ?_
      rw [hfrom]
      refine E_istoreC dX12_given_40 (by decide) rfl ?_
      refine E_lv (lv' := [_, _, _, _, _, _, _, _]) rfl ?_
      refine E_aload_n (i := 0) dX12_given_42 rfl rfl ?_
      refine E_gr dX12_given_43 gf_X12_9_12 rfl (by assumption) (by assumption) ?_
      refine E_iload dX12_given_46 rfl ?_
      refine E_iconst (v := 1) dX12_given_48 (by decide) ?_
      refine E_isub dX12_given_49 ?_
      rw [hf1]
      refine E_iaj (168 + 52 * u) dX12_given_50 (by assumption) rfl (by omega) (by rw [n3]; omega) ?_
      refine E_if_le (tgt := 65) dX12_given_51 (by decide) (fun c_51 => ?_) (fun c_51 => absurd (z0) c_51)
      refine E_iload_n (i := 1) dX12_given_65 rfl rfl ?_
      refine E_if_ne (tgt := 88) dX12_given_66 (by decide) (fun c_66 => absurd (hx0.mpr h) c_66) (fun c_66 => ?_)
      refine E_iload_n (i := 2) dX12_given_69 rfl rfl ?_
      refine E_bipush (v := 100) dX12_given_70 (by decide) ?_
      refine E_idiv dX12_given_72 (by decide) ?_
      refine E_iload_n (i := 3) dX12_given_73 rfl rfl ?_
      refine E_bipush (v := 100) dX12_given_74 (by decide) ?_
      refine E_icmp_le (tgt := 83) dX12_given_76 (by decide) (fun c_76 => ?_) (fun c_76 => ?_)
      · refine E_iconst (v := 0) dX12_given_83 (by decide) ?_
        refine E_iadd dX12_given_84 ?_
        refine E_goto (tgt := 101) dX12_given_85 (by decide) ?_
        refine E_istoreC dX12_given_101 (by decide) rfl ?_
        refine E_lv (lv' := [_, _, _, _, _, _, _, _]) rfl ?_
        exact tail _ _ _ (fun k h1 _ => i1 k h1) (hv _ (by first | exact (bz_f (Int32.not_lt.mpr c_76)).symm | exact (bz_t (Int32.not_le.mp c_76)).symm))
      · refine E_iconst (v := 1) dX12_given_79 (by decide) ?_
        refine E_goto (tgt := 84) dX12_given_80 (by decide) ?_
        refine E_iadd dX12_given_84 ?_
        refine E_goto (tgt := 101) dX12_given_85 (by decide) ?_
        refine E_istoreC dX12_given_101 (by decide) rfl ?_
        refine E_lv (lv' := [_, _, _, _, _, _, _, _]) rfl ?_
        exact tail _ _ _ (fun k h1 _ => i1 k h1) (hv _ (by first | exact (bz_f (Int32.not_lt.mpr c_76)).symm | exact (bz_t (Int32.not_le.mp c_76)).symm))
    · have hv : ∀ z : Int32, z = bz (a < c * 5) → z = vof (nm4 a b c e) δ := fun z hz => by rw [hδ, show u = 1 by omega, df1, hz]
      refine E_aload_n (i := 0) dX12_given_0 rfl rfl ?_
      refine E_gr dX12_given_1 gf_X12_42_12 rfl (by assumption) (by assumption) ?_
      refine E_iconst (v := 0) dX12_given_4 (by decide) ?_
      refine E_iload_n (i := 2) dX12_given_5 rfl rfl ?_
      refine E_isj 0 dX12_given_6 (by assumption) rfl (by first | decide | omega) (by rw [k3]; decide) ?_
      refine E_aload_n (i := 0) dX12_given_7 rfl rfl ?_
      refine E_gr dX12_given_8 gf_X12_42_12 rfl (by assumption) (by assumption) ?_
      refine E_iconst (v := 1) dX12_given_11 (by decide) ?_
      refine E_iload_n (i := 3) dX12_given_12 rfl rfl ?_
      refine E_isj 1 dX12_given_13 (by assumption) rfl (by first | decide | omega) (by rw [k3]; decide) ?_
      refine E_aload_n (i := 0) dX12_given_14 rfl rfl ?_
      refine E_gr dX12_given_15 gf_X12_42_12 rfl (by assumption) (by assumption) ?_
      refine E_iconst (v := 2) dX12_given_18 (by decide) ?_
      refine E_iload dX12_given_19 rfl ?_
      refine E_isj 2 dX12_given_21 (by assumption) rfl (by first | decide | omega) (by rw [k3]; decide) ?_
      refine E_aload_n (i := 0) dX12_given_22 rfl rfl ?_
      refine E_gr dX12_given_23 gf_X12_42_12 rfl (by assumption) (by assumption) ?_
      refine E_iconst (v := 3) dX12_given_26 (by decide) ?_
      refine E_iload dX12_given_27 rfl ?_
      refine E_isj 3 dX12_given_29 (by assumption) rfl (by first | decide | omega) (by rw [k3]; decide) ?_
      rw [hI1]
      refine E_sipush (v := 168) dX12_given_30 (by decide) ?_
      refine E_bipush (v := 52) dX12_given_33 (by decide) ?_
      refine E_iload_n (i := 1) dX12_given_35 rfl rfl ?_
      refine E_imul dX12_given_36 ?_
      refine E_iadd dX12_given_37 ?_
      refine E_iconst (v := 1) dX12_given_38 (by decide) ?_
      refine E_iadd dX12_given_39 ?_
      rw [hfrom]
      refine E_istoreC dX12_given_40 (by decide) rfl ?_
      refine E_lv (lv' := [_, _, _, _, _, _, _, _]) rfl ?_
      refine E_aload_n (i := 0) dX12_given_42 rfl rfl ?_
      refine E_gr dX12_given_43 gf_X12_9_12 rfl (by assumption) (by assumption) ?_
      refine E_iload dX12_given_46 rfl ?_
      refine E_iconst (v := 1) dX12_given_48 (by decide) ?_
      refine E_isub dX12_given_49 ?_
      rw [hf1]
      refine E_iaj (168 + 52 * u) dX12_given_50 (by assumption) rfl (by omega) (by rw [n3]; omega) ?_
      refine E_if_le (tgt := 65) dX12_given_51 (by decide) (fun c_51 => ?_) (fun c_51 => absurd (z0) c_51)
      refine E_iload_n (i := 1) dX12_given_65 rfl rfl ?_
      refine E_if_ne (tgt := 88) dX12_given_66 (by decide) (fun c_66 => ?_) (fun c_66 => absurd c_66 (fun q => h (hx0.mp q)))
      refine E_iload dX12_given_88 rfl ?_
      refine E_iconst (v := 5) dX12_given_90 (by decide) ?_
      refine E_imul dX12_given_91 ?_
      refine E_iload_n (i := 2) dX12_given_92 rfl rfl ?_
      refine E_icmp_le (tgt := 100) dX12_given_93 (by decide) (fun c_93 => ?_) (fun c_93 => ?_)
      · refine E_iconst (v := 0) dX12_given_100 (by decide) ?_
        refine E_istoreC dX12_given_101 (by decide) rfl ?_
        refine E_lv (lv' := [_, _, _, _, _, _, _, _]) rfl ?_
        exact tail _ _ _ (fun k h1 _ => i1 k h1) (hv _ (by first | exact (bz_f (Int32.not_lt.mpr c_93)).symm | exact (bz_t (Int32.not_le.mp c_93)).symm))
      · refine E_iconst (v := 1) dX12_given_96 (by decide) ?_
        refine E_goto (tgt := 101) dX12_given_97 (by decide) ?_
        refine E_istoreC dX12_given_101 (by decide) rfl ?_
        refine E_lv (lv' := [_, _, _, _, _, _, _, _]) rfl ?_
        exact tail _ _ _ (fun k h1 _ => i1 k h1) (hv _ (by first | exact (bz_f (Int32.not_lt.mpr c_93)).symm | exact (bz_t (Int32.not_le.mp c_93)).symm))
  · have z0 : ¬ I1 110 (168 + 52 * u) ≤ 0 := by rw [e168, m1]; exact nI_nle hl (by omega)
    refine E_aload_n (i := 0) dX12_given_0 rfl rfl ?_
    refine E_gr dX12_given_1 gf_X12_42_12 rfl (by assumption) (by assumption) ?_
    refine E_iconst (v := 0) dX12_given_4 (by decide) ?_
    refine E_iload_n (i := 2) dX12_given_5 rfl rfl ?_
    refine E_isj 0 dX12_given_6 (by assumption) rfl (by first | decide | omega) (by rw [k3]; decide) ?_
    refine E_aload_n (i := 0) dX12_given_7 rfl rfl ?_
    refine E_gr dX12_given_8 gf_X12_42_12 rfl (by assumption) (by assumption) ?_
    refine E_iconst (v := 1) dX12_given_11 (by decide) ?_
    refine E_iload_n (i := 3) dX12_given_12 rfl rfl ?_
    refine E_isj 1 dX12_given_13 (by assumption) rfl (by first | decide | omega) (by rw [k3]; decide) ?_
    refine E_aload_n (i := 0) dX12_given_14 rfl rfl ?_
    refine E_gr dX12_given_15 gf_X12_42_12 rfl (by assumption) (by assumption) ?_
    refine E_iconst (v := 2) dX12_given_18 (by decide) ?_
    refine E_iload dX12_given_19 rfl ?_
    refine E_isj 2 dX12_given_21 (by assumption) rfl (by first | decide | omega) (by rw [k3]; decide) ?_
    refine E_aload_n (i := 0) dX12_given_22 rfl rfl ?_
    refine E_gr dX12_given_23 gf_X12_42_12 rfl (by assumption) (by assumption) ?_
    refine E_iconst (v := 3) dX12_given_26 (by decide) ?_
    refine E_iload dX12_given_27 rfl ?_
    refine E_isj 3 dX12_given_29 (by assumption) rfl (by first | decide | omega) (by rw [k3]; decide) ?_
    rw [hI1]
    refine E_sipush (v := 168) dX12_given_30 (by decide) ?_
    refine E_bipush (v := 52) dX12_given_33 (by decide) ?_
    refine E_iload_n (i := 1) dX12_given_35 rfl rfl ?_
    refine E_imul dX12_given_36 ?_
    refine E_iadd dX12_given_37 ?_
    refine E_iconst (v := 1) dX12_given_38 (by decide) ?_
    refine E_iadd dX12_given_39 ?_
    rw [hfrom]
    refine E_istoreC dX12_given_40 (by decide) rfl ?_
    refine E_lv (lv' := [_, _, _, _, _, _, _, _]) rfl ?_
    refine E_aload_n (i := 0) dX12_given_42 rfl rfl ?_
    refine E_gr dX12_given_43 gf_X12_9_12 rfl (by assumption) (by assumption) ?_
    refine E_iload dX12_given_46 rfl ?_
    refine E_iconst (v := 1) dX12_given_48 (by decide) ?_
    refine E_isub dX12_given_49 ?_
    rw [hf1]
    refine E_iaj (168 + 52 * u) dX12_given_50 (by assumption) rfl (by omega) (by rw [n3]; omega) ?_
    refine E_if_le (tgt := 65) dX12_given_51 (by decide) (fun c_51 => absurd c_51 (z0)) (fun c_51 => ?_)
    refine E_aload_n (i := 0) dX12_given_54 rfl rfl ?_
    refine E_iload dX12_given_55 rfl ?_
    refine k_X12_given_57 (mc' := 0) (ms' := 0) (rc := 0) (rs := 0) (by omega) (Nat.le_of_ble_eq_true rfl) (by assumption) (c_worked (by omega) hM hu rfl (by rw [i1 110 (by decide)]; exact m1) (by rw [i1 110 (by decide)]; exact m2) t1 t2 hnm (fun J hJ => ?_))
    refine E_istoreC dX12_given_60 (by decide) rfl ?_
    refine E_lv (lv' := [_, _, _, _, _, _, _, _]) rfl ?_
    refine E_goto (tgt := 103) dX12_given_62 (by decide) ?_
    exact tail _ _ _ (fun k h1 h2 => by rw [hJ k h2, i1 k h1]) rfl
theorem c_X12_law {x a b c e : Int32} {δ : Nat → List Int32} (hd : 3 ≤ d) (hM : Mo g P) (hT : ∀ u, u ≤ 1 → TC u (δ u) (I 110)) (h1 : ∀ u, x = nI u → u ≤ 1 → ∀ J, (∀ k, k ≠ 118 → k ≠ 119 → J k = I k) → Φ (some (.int (gvl u (δ u) a b c e))) g P J) (h2 : ¬ (0 ≤ x ∧ x ≤ 1) → Φ (some (.int (er 1))) g P (flM I 1)) : MM Γ mX12_law d 0 0 [.ref 109, .int x, .int a, .int b, .int c, .int e] g P I Φ := by
  refine MM_entry [some _, some _, some _, some _, some _, some _] (by decide) (Nat.le_of_ble_eq_true rfl) rfl ?_
  have h0 := hM.1
  by_cases hc : 0 ≤ x ∧ x ≤ 1
  · obtain ⟨u, hx, hu⟩ := x01 hc
    refine E_iload_n (i := 1) dX12_law_0 rfl rfl ?_
    refine E_iconst (v := 0) dX12_law_1 (by decide) ?_
    refine E_iconst (v := 1) dX12_law_2 (by decide) ?_
    refine k_X12_law_3 (mc' := 0) (ms' := 0) (rc := 0) (rs := 0) (by omega) (Nat.le_of_ble_eq_true rfl) (c_X12_within ?_)
    rw [bz_t hc]
    refine E_if_eq (tgt := 23) dX12_law_6 (by decide) (fun c_6 => absurd c_6 (by decide)) (fun c_6 => ?_)
    refine E_aload_n (i := 0) dX12_law_9 rfl rfl ?_
    refine E_iload_n (i := 1) dX12_law_10 rfl rfl ?_
    refine E_iload_n (i := 2) dX12_law_11 rfl rfl ?_
    refine E_iload_n (i := 3) dX12_law_12 rfl rfl ?_
    refine E_iload dX12_law_13 rfl ?_
    refine E_iload dX12_law_15 rfl ?_
    refine k_X12_law_17 (mc' := 0) (ms' := 0) (rc := 0) (rs := 0) (by omega) (Nat.le_of_ble_eq_true rfl) (by assumption) (c_X12_given (by omega) hM hu hx (hT u hu) (fun J hJ => ?_))
    refine E_goto (tgt := 29) dX12_law_20 (by decide) ?_
    refine E_iret dX12_law_29 rfl ?_
    exact h1 u hx hu J hJ
  · have hΦ := h2 hc
    refine E_iload_n (i := 1) dX12_law_0 rfl rfl ?_
    refine E_iconst (v := 0) dX12_law_1 (by decide) ?_
    refine E_iconst (v := 1) dX12_law_2 (by decide) ?_
    refine k_X12_law_3 (mc' := 0) (ms' := 0) (rc := 0) (rs := 0) (by omega) (Nat.le_of_ble_eq_true rfl) (c_X12_within ?_)
    rw [bz_f hc]
    refine E_if_eq (tgt := 23) dX12_law_6 (by decide) (fun c_6 => ?_) (fun c_6 => absurd (rfl) c_6)
    refine E_aload_n (i := 0) dX12_law_23 rfl rfl ?_
    refine E_ldc (v := -1000000001) dX12_law_24 w_1208 ?_
    refine k_X12_law_26 (mc' := 0) (ms' := 0) (rc := 0) (rs := 0) (by omega) (Nat.le_of_ble_eq_true rfl) (by assumption) (c_find1 hM ?_)
    refine E_iret dX12_law_29 rfl ?_
    exact hΦ
theorem c_X12_text {x : Int32} {n : Nat} (hd : 55 ≤ d) (hM : Mo g P) (hn : I 110 4 = nI n) (n50 : n ≤ 50) (hB : ∀ i, i < n → ∃ b, b < 256 ∧ I 110 (98 + i) = nI b)
    (h1 : ∀ u, x = nI u → u ≤ 1 → ((rdT (tM I) n u).2.1 = false ∧ ¬ (rdT (tM I) n u).1 < n) → ∀ J, (∀ a, a ≠ 109 → a ≠ 110 → a ≠ 117 → J a = I a) → (∀ k, k ≠ 8 → k ≠ 9 → k ≠ 10 → k ≠ 11 → k ≠ 13 → J 109 k = I 109 k) → J 110 4 = 0 → J 110 (168 + 52 * u) = nI (rdT (tM I) n u).2.2.length → (∀ i, i < (rdT (tM I) n u).2.2.length → J 110 (169 + 52 * u + i) = (rdT (tM I) n u).2.2.getD i 0) → (∀ y, y ≠ 4 → (y < 168 + 52 * u ∨ 220 + 52 * u ≤ y) → J 110 y = I 110 y) → Φ (some (.int 1)) g P J)
    (h2 : ∀ u, x = nI u → u ≤ 1 → ¬ ((rdT (tM I) n u).2.1 = false ∧ ¬ (rdT (tM I) n u).1 < n) → ∀ J, (∀ a, a ≠ 109 → a ≠ 110 → a ≠ 117 → J a = I a) → (∀ k, k ≠ 8 → k ≠ 9 → k ≠ 10 → k ≠ 11 → k ≠ 13 → J 109 k = I 109 k) → J 110 = ur (I 110) 4 0 → Φ (some (.int (-10 - nI (rdT (tM I) n u).1))) g P J)
    (h3 : ¬ (0 ≤ x ∧ x ≤ 1) → Φ (some (.int (er 1))) g P (flM I 1)) : MM Γ mX12_text d 0 0 [.ref 109, .int x] g P I Φ := by
  refine MM_entry [some _, some _, none] (by decide) (Nat.le_of_ble_eq_true rfl) rfl ?_
  have h0 := hM.1
  obtain ⟨n1, n2, n3⟩ := hM.now
  obtain ⟨k1, k2, k3⟩ := hM.cod
  by_cases hc : 0 ≤ x ∧ x ≤ 1
  · obtain ⟨u, hx, hu⟩ := x01 hc
    generalize hI1 : u2 I 109 10 x = I1
    have i110 : I1 110 = I 110 := by rw [← hI1, u2_oth _ (by decide)]
    have hX : MX g P I1 n u := ⟨hM, by rw [i110]; exact hn, n50, by rw [← hI1, u2_s]; exact hx, hu, by rw [i110]; exact hB⟩
    have et : tM I1 = tM I := by show (fun i => I1 110 (98 + i)) = fun i => I 110 (98 + i); rw [i110]
    have hg := pS_Gd (tM I1) n hu 5
    have hE : CM Γ g P I1 n mX12_either 0 53 (eth (tM I1) n (pS (tM I1) n u 5)) := m_up (need := 47) hX hg (m_all hX 5 0 rfl)
    have hBN : BN n (rdT (tM I) n u) := by
      have := (gd_eth (t := tM I1) hg).B (σ := (0, false, [])) ⟨Nat.zero_le _, Nat.zero_le _⟩
      rw [et] at this
      exact this
    have hE2 : ∀ (J : HI) (Φ : Option Value → Sh → HP → HI → Prop), MS I1 J 0 (0, false, []) → (∀ J', MS I1 J' 0 (rdT (tM I) n u) → Φ none g P J') → MM Γ mX12_either (d - 1) 0 0 [.ref 109] g P J Φ := by
      intro J Φ q1 q2
      have q3 := hE (d - 1) J (0, false, []) Φ (by omega) q1 ⟨Nat.zero_le _, Nat.zero_le _⟩
      rw [et] at q3
      exact q3 q2
    obtain ⟨σ, hσ⟩ := hid (rdT (tM I) n u)
    rw [hσ ()] at hE2 hBN
    have hh1 := h1 u hx hu
    have hh2 := h2 u hx hu
    rw [hσ ()] at hh1 hh2
    clear h1 h2
    have i109 : ∀ k, k ≠ 10 → I1 109 k = I 109 k := fun k hk => by rw [← hI1, u2_o (fun q => hk q.2)]
    have ia : ∀ a, a ≠ 109 → I1 a = I a := fun a ha => by rw [← hI1, u2_oth _ ha]
    have hMS : MS I1 (u2 (u2 (u2 (u2 I1 109 8 0) 109 9 0) 109 11 0) 109 13 0) 0 (0, false, []) := ⟨fun a p q => by rw [u2_oth _ p, u2_oth _ p, u2_oth _ p, u2_oth _ p], fun k p1 p2 p3 p4 => by rw [u2_o (fun q => p4 q.2), u2_o (fun q => p3 q.2), u2_o (fun q => p2 q.2), u2_o (fun q => p1 q.2)], by rw [u2_o (by decide), u2_o (by decide), u2_o (by decide), u2_s]; rfl, by rw [u2_o (by decide), u2_o (by decide), u2_s]; rfl, by rw [u2_o (by decide), u2_s]; rfl, by rw [u2_s]; rfl, fun i hi => absurd hi (Nat.not_lt_zero _)⟩
    have b1 := hBN.1
    have b2 := hBN.2
    by_cases hgo : σ.2.1 = false ∧ ¬ σ.1 < n
    · have hΦ := hh1 hgo
      have hbase : (168 : Int32) + 52 * x = nI (168 + 52 * u) := by rw [hx, show (52 : Int32) * nI u = nI (52 * u) from pk_mul 52 u]; exact nI_add 168 _
      have loop : ∀ (N i : Nat) (y : Int32) (J K : HI), σ.2.2.length - i ≤ N → i ≤ σ.2.2.length → y = nI i → MS I1 J 0 σ → (∀ a, a ≠ 109 → a ≠ 110 → K a = J a) → (∀ k, k ≠ 11 → K 109 k = J 109 k) → K 110 4 = 0 → K 110 (168 + 52 * u) = nI σ.2.2.length → (∀ j, j < i → K 110 (169 + 52 * u + j) = σ.2.2.getD j 0) → (∀ y, y ≠ 4 → (y < 168 + 52 * u ∨ 220 + 52 * u ≤ y) → K 110 y = I 110 y) → E Γ mX12_text d 0 0 (QM Γ 0 0 Φ) 0 0 118 [some (.ref 109), some (.int x), some (.int y)] [] g P K := by
        intro N
        induction N with
        | zero =>
          intro i y J K hN hi hy hJ q1 q2 q3 q4 q5 q6
          have hil : i = σ.2.2.length := by omega
          have e13 : K 109 13 = nI σ.2.2.length := by rw [q2 13 (by decide)]; exact hJ.2.2.2.2.2.1
          refine E_iload_n (i := 2) dX12_text_118 rfl rfl ?_
          refine E_aload_n (i := 0) dX12_text_119 rfl rfl ?_
          refine E_gi dX12_text_120 gf_X12_171_12 rfl (by assumption) ?_
          refine E_icmp_ge (tgt := 158) dX12_text_123 (by decide) (fun c_123 => ?_) (fun c_123 => absurd (by rw [e13, hy, hil]; exact Int32.le_refl _) c_123)
          refine E_iconst (v := 1) dX12_text_158 (by decide) ?_
          refine E_iret dX12_text_159 rfl ?_
          exact hΦ K (fun a a1 a2 a3 => by rw [q1 a a1 a2, hJ.1 a a1 a3, ia a a1]) (fun k p1 p2 p3 p4 p5 => by rw [q2 k p4, hJ.2.1 k p1 p2 p4 p5, i109 k p3]) q3 q4 (fun j hj => q5 j (by omega)) q6
        | succ N ih =>
          intro i y J K hN hi hy hJ q1 q2 q3 q4 q5 q6
          have e13 : K 109 13 = nI σ.2.2.length := by rw [q2 13 (by decide)]; exact hJ.2.2.2.2.2.1
          by_cases hil : i = σ.2.2.length
          · refine E_iload_n (i := 2) dX12_text_118 rfl rfl ?_
            refine E_aload_n (i := 0) dX12_text_119 rfl rfl ?_
            refine E_gi dX12_text_120 gf_X12_171_12 rfl (by assumption) ?_
            refine E_icmp_ge (tgt := 158) dX12_text_123 (by decide) (fun c_123 => ?_) (fun c_123 => absurd (by rw [e13, hy, hil]; exact Int32.le_refl _) c_123)
            refine E_iconst (v := 1) dX12_text_158 (by decide) ?_
            refine E_iret dX12_text_159 rfl ?_
            exact hΦ K (fun a a1 a2 a3 => by rw [q1 a a1 a2, hJ.1 a a1 a3, ia a a1]) (fun k p1 p2 p3 p4 p5 => by rw [q2 k p4, hJ.2.1 k p1 p2 p4 p5, i109 k p3]) q3 q4 (fun j hj => q5 j (by omega)) q6
          · have e10 : K 109 10 = x := by rw [q2 10 (by decide), hJ.2.1 10 (by decide) (by decide) (by decide) (by decide), ← hI1, u2_s]
            have hix : (168 : Int32) + 52 * K 109 10 + 1 + y = nI (169 + 52 * u + i) := by
              rw [e10, hbase, nI_1, hy, nI_add]
              congr 1
              omega
            have e117 : K 117 i = σ.2.2.getD i 0 := by rw [q1 117 (by decide) (by decide)]; exact hJ.2.2.2.2.2.2 i (by omega)
            refine E_iload_n (i := 2) dX12_text_118 rfl rfl ?_
            refine E_aload_n (i := 0) dX12_text_119 rfl rfl ?_
            refine E_gi dX12_text_120 gf_X12_171_12 rfl (by assumption) ?_
            refine E_icmp_ge (tgt := 158) dX12_text_123 (by decide) (fun c_123 => absurd c_123 (by rw [e13, hy]; exact nI_ge (by omega) (by omega))) (fun c_123 => ?_)
            refine E_aload_n (i := 0) dX12_text_126 rfl rfl ?_
            refine E_gr dX12_text_127 gf_X12_9_12 rfl (by assumption) (by assumption) ?_
            refine E_sipush (v := 168) dX12_text_130 (by decide) ?_
            refine E_bipush (v := 52) dX12_text_133 (by decide) ?_
            refine E_aload_n (i := 0) dX12_text_135 rfl rfl ?_
            refine E_gi dX12_text_136 gf_X12_196_12 rfl (by assumption) ?_
            refine E_imul dX12_text_139 ?_
            refine E_iadd dX12_text_140 ?_
            refine E_iconst (v := 1) dX12_text_141 (by decide) ?_
            refine E_iadd dX12_text_142 ?_
            refine E_iload_n (i := 2) dX12_text_143 rfl rfl ?_
            refine E_iadd dX12_text_144 ?_
            refine E_aload_n (i := 0) dX12_text_145 rfl rfl ?_
            refine E_gr dX12_text_146 gf_X12_39_12 rfl (by assumption) (by assumption) ?_
            refine E_iload_n (i := 2) dX12_text_149 rfl rfl ?_
            refine E_iaj i dX12_text_150 (by assumption) hy (by omega) (by rw [k3]; omega) ?_
            rw [e117]
            refine E_isj (169 + 52 * u + i) dX12_text_151 (by assumption) hix (by first | decide | omega) (by rw [n3]; omega) ?_
            refine E_incC (c := 1) dX12_text_152 rfl (by decide) (by decide) rfl ?_
            refine E_lv (lv' := [_, _, _]) rfl ?_
            refine E_goto (tgt := 118) dX12_text_155 (by decide) ?_
            refine ih (i + 1) _ J _ (by omega) (by omega) (by rw [hy, nI_1]) hJ (fun a a1 a2 => by rw [u2_oth _ a2]; exact q1 a a1 a2) (fun k hk => by rw [u2_oth _ (by decide)]; exact q2 k hk) (by rw [u2_o (fun q => by omega)]; exact q3) (by rw [u2_o (fun q => by omega)]; exact q4) (fun j hj => ?_) (fun y p1 p2 => by rw [u2_o (fun q => by omega)]; exact q6 y p1 p2)
            by_cases e : j = i
            · rw [e, u2_s]
            · rw [u2_o (fun q => by omega)]
              exact q5 j (by omega)
      refine E_iload_n (i := 1) dX12_text_0 rfl rfl ?_
      refine E_iconst (v := 0) dX12_text_1 (by decide) ?_
      refine E_iconst (v := 1) dX12_text_2 (by decide) ?_
      refine k_X12_text_3 (mc' := 0) (ms' := 0) (rc := 0) (rs := 0) (by omega) (Nat.le_of_ble_eq_true rfl) (c_X12_within ?_)
      rw [bz_t hc]
      refine E_if_ne (tgt := 16) dX12_text_6 (by decide) (fun c_6 => ?_) (fun c_6 => absurd c_6 (by decide))
      refine E_aload_n (i := 0) dX12_text_16 rfl rfl ?_
      refine E_iload_n (i := 1) dX12_text_17 rfl rfl ?_
      refine E_pi dX12_text_18 gf_X12_196_12 rfl (by assumption) ?_
      rw [hI1]
      refine E_aload_n (i := 0) dX12_text_21 rfl rfl ?_
      refine E_iconst (v := 0) dX12_text_22 (by decide) ?_
      refine E_pi dX12_text_23 gf_X12_164_12 rfl (by assumption) ?_
      refine E_aload_n (i := 0) dX12_text_26 rfl rfl ?_
      refine E_iconst (v := 0) dX12_text_27 (by decide) ?_
      refine E_pi dX12_text_28 gf_X12_206_12 rfl (by assumption) ?_
      refine E_aload_n (i := 0) dX12_text_31 rfl rfl ?_
      refine E_iconst (v := 0) dX12_text_32 (by decide) ?_
      refine E_pz dX12_text_33 gf_X12_160_12 rfl (by first | exact Or.inl rfl | exact Or.inr rfl | assumption) (by assumption) ?_
      refine E_aload_n (i := 0) dX12_text_36 rfl rfl ?_
      refine E_iconst (v := 0) dX12_text_37 (by decide) ?_
      refine E_pi dX12_text_38 gf_X12_171_12 rfl (by assumption) ?_
      refine E_aload_n (i := 0) dX12_text_41 rfl rfl ?_
      refine k_X12_text_42 (mc' := 0) (ms' := 0) (rc := 0) (rs := 0) (by omega) (Nat.le_of_ble_eq_true rfl) (by assumption) (hE2 _ _ hMS (fun J hJ => ?_))
      have j11 : J 109 11 = 0 := by rw [hJ.2.2.2.2.1, hgo.1]; rfl
      have j8 : J 109 8 = nI σ.1 := hJ.2.2.1
      have j110 : J 110 = I 110 := by rw [hJ.1 110 (by decide) (by decide), i110]
      have j4 : J 110 4 = nI n := by rw [j110]; exact hn
      have j10 : J 109 10 = x := by rw [hJ.2.1 10 (by decide) (by decide) (by decide) (by decide), ← hI1, u2_s]
      have j13 : J 109 13 = nI σ.2.2.length := hJ.2.2.2.2.2.1
      refine E_aload_n (i := 0) dX12_text_45 rfl rfl ?_
      refine E_aload_n (i := 0) dX12_text_46 rfl rfl ?_
      refine E_gi dX12_text_47 gf_X12_160_12 rfl (by assumption) ?_
      refine E_if_ne (tgt := 66) dX12_text_50 (by decide) (fun c_50 => absurd (j11) c_50) (fun c_50 => ?_)
      refine E_aload_n (i := 0) dX12_text_53 rfl rfl ?_
      refine E_gi dX12_text_54 gf_X12_164_12 rfl (by assumption) ?_
      refine E_aload_n (i := 0) dX12_text_57 rfl rfl ?_
      refine E_gr dX12_text_58 gf_X12_9_12 rfl (by assumption) (by assumption) ?_
      refine E_iconst (v := 4) dX12_text_61 (by decide) ?_
      refine E_iaj 4 dX12_text_62 (by assumption) rfl (by decide) (by rw [n3]; decide) ?_
      refine E_icmp_ge (tgt := 70) dX12_text_63 (by decide) (fun c_63 => ?_) (fun c_63 => absurd (by rw [j8, j4]; exact nI_le (by omega) (by omega)) c_63)
      refine E_iconst (v := 0) dX12_text_70 (by decide) ?_
      refine E_pz dX12_text_71 gf_X12_160_12 rfl (by first | exact Or.inl rfl | exact Or.inr rfl | assumption) (by assumption) ?_
      refine E_aload_n (i := 0) dX12_text_74 rfl rfl ?_
      refine E_gr dX12_text_75 gf_X12_9_12 rfl (by assumption) (by assumption) ?_
      refine E_iconst (v := 4) dX12_text_78 (by decide) ?_
      refine E_iconst (v := 0) dX12_text_79 (by decide) ?_
      refine E_isj 4 dX12_text_80 (by assumption) rfl (by first | decide | omega) (by rw [n3]; decide) ?_
      refine E_aload_n (i := 0) dX12_text_81 rfl rfl ?_
      refine E_gi dX12_text_82 gf_X12_160_12 rfl (by assumption) ?_
      rw [u2_oth _ (by decide), u2_s]
      refine E_if_eq (tgt := 96) dX12_text_85 (by decide) (fun c_85 => ?_) (fun c_85 => absurd (rfl) c_85)
      refine E_aload_n (i := 0) dX12_text_96 rfl rfl ?_
      refine E_gr dX12_text_97 gf_X12_9_12 rfl (by assumption) (by assumption) ?_
      refine E_sipush (v := 168) dX12_text_100 (by decide) ?_
      refine E_bipush (v := 52) dX12_text_103 (by decide) ?_
      refine E_aload_n (i := 0) dX12_text_105 rfl rfl ?_
      refine E_gi dX12_text_106 gf_X12_196_12 rfl (by assumption) ?_
      refine E_imul dX12_text_109 ?_
      rw [u2_oth _ (by decide), u2_o (by decide), j10]
      refine E_iadd dX12_text_110 ?_
      refine E_aload_n (i := 0) dX12_text_111 rfl rfl ?_
      refine E_gi dX12_text_112 gf_X12_171_12 rfl (by assumption) ?_
      rw [u2_oth _ (by decide), u2_o (by decide), j13]
      refine E_isj (168 + 52 * u) dX12_text_115 (by assumption) hbase (by first | decide | omega) (by rw [n3]; omega) ?_
      refine E_iconst (v := 0) dX12_text_116 (by decide) ?_
      refine E_istore_nC (i := 2) dX12_text_117 rfl (by decide) rfl ?_
      refine E_lv (lv' := [_, _, _]) rfl ?_
      refine loop σ.2.2.length 0 _ J _ (by omega) (by omega) rfl hJ (fun a a1 a2 => by rw [u2_oth _ a2, u2_oth _ a2, u2_oth _ a1]) (fun k hk => by rw [u2_oth _ (by decide), u2_oth _ (by decide), u2_o (fun q => hk q.2)]) (by rw [u2_o (fun q => by omega), u2_s]) (u2_s _ _ _ _) (fun j hj => absurd hj (Nat.not_lt_zero _)) (fun y p1 p2 => ?_)
      rw [u2_o (fun q => by omega), u2_o (fun q => p1 q.2), u2_oth _ (by decide), j110]
    · have hΦ := hh2 hgo
      have fin : ∀ (J : HI), MS I1 J 0 σ → Φ (some (.int (-10 - nI σ.1))) g P (u2 (u2 J 109 11 1) 110 4 0) := by
        intro J hJ
        refine hΦ _ (fun a a1 a2 a3 => by rw [u2_oth _ a2, u2_oth _ a1, hJ.1 a a1 a3, ia a a1]) (fun k p1 p2 p3 p4 p5 => by rw [u2_oth _ (by decide), u2_o (fun q => p4 q.2), hJ.2.1 k p1 p2 p4 p5, i109 k p3]) ?_
        rw [u2_row, u2_oth _ (by decide), hJ.1 110 (by decide) (by decide), i110]
      cases hw : σ.2.1 with
      | true =>
        refine E_iload_n (i := 1) dX12_text_0 rfl rfl ?_
        refine E_iconst (v := 0) dX12_text_1 (by decide) ?_
        refine E_iconst (v := 1) dX12_text_2 (by decide) ?_
        refine k_X12_text_3 (mc' := 0) (ms' := 0) (rc := 0) (rs := 0) (by omega) (Nat.le_of_ble_eq_true rfl) (c_X12_within ?_)
        rw [bz_t hc]
        refine E_if_ne (tgt := 16) dX12_text_6 (by decide) (fun c_6 => ?_) (fun c_6 => absurd c_6 (by decide))
        refine E_aload_n (i := 0) dX12_text_16 rfl rfl ?_
        refine E_iload_n (i := 1) dX12_text_17 rfl rfl ?_
        refine E_pi dX12_text_18 gf_X12_196_12 rfl (by assumption) ?_
        rw [hI1]
        refine E_aload_n (i := 0) dX12_text_21 rfl rfl ?_
        refine E_iconst (v := 0) dX12_text_22 (by decide) ?_
        refine E_pi dX12_text_23 gf_X12_164_12 rfl (by assumption) ?_
        refine E_aload_n (i := 0) dX12_text_26 rfl rfl ?_
        refine E_iconst (v := 0) dX12_text_27 (by decide) ?_
        refine E_pi dX12_text_28 gf_X12_206_12 rfl (by assumption) ?_
        refine E_aload_n (i := 0) dX12_text_31 rfl rfl ?_
        refine E_iconst (v := 0) dX12_text_32 (by decide) ?_
        refine E_pz dX12_text_33 gf_X12_160_12 rfl (by first | exact Or.inl rfl | exact Or.inr rfl | assumption) (by assumption) ?_
        refine E_aload_n (i := 0) dX12_text_36 rfl rfl ?_
        refine E_iconst (v := 0) dX12_text_37 (by decide) ?_
        refine E_pi dX12_text_38 gf_X12_171_12 rfl (by assumption) ?_
        refine E_aload_n (i := 0) dX12_text_41 rfl rfl ?_
        refine k_X12_text_42 (mc' := 0) (ms' := 0) (rc := 0) (rs := 0) (by omega) (Nat.le_of_ble_eq_true rfl) (by assumption) (hE2 _ _ hMS (fun J hJ => ?_))
        have j11 : J 109 11 = 1 := by rw [hJ.2.2.2.2.1, hw]; rfl
        have j8 : J 109 8 = nI σ.1 := hJ.2.2.1
        refine E_aload_n (i := 0) dX12_text_45 rfl rfl ?_
        refine E_aload_n (i := 0) dX12_text_46 rfl rfl ?_
        refine E_gi dX12_text_47 gf_X12_160_12 rfl (by assumption) ?_
        refine E_if_ne (tgt := 66) dX12_text_50 (by decide) (fun c_50 => ?_) (fun c_50 => absurd c_50 (by rw [j11]; decide))
        refine E_iconst (v := 1) dX12_text_66 (by decide) ?_
        refine E_goto (tgt := 71) dX12_text_67 (by decide) ?_
        refine E_pz dX12_text_71 gf_X12_160_12 rfl (by first | exact Or.inl rfl | exact Or.inr rfl | assumption) (by assumption) ?_
        refine E_aload_n (i := 0) dX12_text_74 rfl rfl ?_
        refine E_gr dX12_text_75 gf_X12_9_12 rfl (by assumption) (by assumption) ?_
        refine E_iconst (v := 4) dX12_text_78 (by decide) ?_
        refine E_iconst (v := 0) dX12_text_79 (by decide) ?_
        refine E_isj 4 dX12_text_80 (by assumption) rfl (by first | decide | omega) (by rw [n3]; decide) ?_
        refine E_aload_n (i := 0) dX12_text_81 rfl rfl ?_
        refine E_gi dX12_text_82 gf_X12_160_12 rfl (by assumption) ?_
        rw [u2_oth _ (by decide), u2_s]
        refine E_if_eq (tgt := 96) dX12_text_85 (by decide) (fun c_85 => absurd c_85 (by decide)) (fun c_85 => ?_)
        refine E_bipush (v := -10) dX12_text_88 (by decide) ?_
        refine E_aload_n (i := 0) dX12_text_90 rfl rfl ?_
        refine E_gi dX12_text_91 gf_X12_164_12 rfl (by assumption) ?_
        rw [u2_oth _ (by decide), u2_o (by decide), j8]
        refine E_isub dX12_text_94 ?_
        refine E_iret dX12_text_95 rfl ?_
        exact fin J hJ
      | false =>
        have hp : σ.1 < n := Classical.byContradiction fun k => hgo ⟨hw, k⟩
        refine E_iload_n (i := 1) dX12_text_0 rfl rfl ?_
        refine E_iconst (v := 0) dX12_text_1 (by decide) ?_
        refine E_iconst (v := 1) dX12_text_2 (by decide) ?_
        refine k_X12_text_3 (mc' := 0) (ms' := 0) (rc := 0) (rs := 0) (by omega) (Nat.le_of_ble_eq_true rfl) (c_X12_within ?_)
        rw [bz_t hc]
        refine E_if_ne (tgt := 16) dX12_text_6 (by decide) (fun c_6 => ?_) (fun c_6 => absurd c_6 (by decide))
        refine E_aload_n (i := 0) dX12_text_16 rfl rfl ?_
        refine E_iload_n (i := 1) dX12_text_17 rfl rfl ?_
        refine E_pi dX12_text_18 gf_X12_196_12 rfl (by assumption) ?_
        rw [hI1]
        refine E_aload_n (i := 0) dX12_text_21 rfl rfl ?_
        refine E_iconst (v := 0) dX12_text_22 (by decide) ?_
        refine E_pi dX12_text_23 gf_X12_164_12 rfl (by assumption) ?_
        refine E_aload_n (i := 0) dX12_text_26 rfl rfl ?_
        refine E_iconst (v := 0) dX12_text_27 (by decide) ?_
        refine E_pi dX12_text_28 gf_X12_206_12 rfl (by assumption) ?_
        refine E_aload_n (i := 0) dX12_text_31 rfl rfl ?_
        refine E_iconst (v := 0) dX12_text_32 (by decide) ?_
        refine E_pz dX12_text_33 gf_X12_160_12 rfl (by first | exact Or.inl rfl | exact Or.inr rfl | assumption) (by assumption) ?_
        refine E_aload_n (i := 0) dX12_text_36 rfl rfl ?_
        refine E_iconst (v := 0) dX12_text_37 (by decide) ?_
        refine E_pi dX12_text_38 gf_X12_171_12 rfl (by assumption) ?_
        refine E_aload_n (i := 0) dX12_text_41 rfl rfl ?_
        refine k_X12_text_42 (mc' := 0) (ms' := 0) (rc := 0) (rs := 0) (by omega) (Nat.le_of_ble_eq_true rfl) (by assumption) (hE2 _ _ hMS (fun J hJ => ?_))
        have j11 : J 109 11 = 0 := by rw [hJ.2.2.2.2.1, hw]; rfl
        have j8 : J 109 8 = nI σ.1 := hJ.2.2.1
        have j4 : J 110 4 = nI n := by rw [hJ.1 110 (by decide) (by decide), i110]; exact hn
        refine E_aload_n (i := 0) dX12_text_45 rfl rfl ?_
        refine E_aload_n (i := 0) dX12_text_46 rfl rfl ?_
        refine E_gi dX12_text_47 gf_X12_160_12 rfl (by assumption) ?_
        refine E_if_ne (tgt := 66) dX12_text_50 (by decide) (fun c_50 => absurd (j11) c_50) (fun c_50 => ?_)
        refine E_aload_n (i := 0) dX12_text_53 rfl rfl ?_
        refine E_gi dX12_text_54 gf_X12_164_12 rfl (by assumption) ?_
        refine E_aload_n (i := 0) dX12_text_57 rfl rfl ?_
        refine E_gr dX12_text_58 gf_X12_9_12 rfl (by assumption) (by assumption) ?_
        refine E_iconst (v := 4) dX12_text_61 (by decide) ?_
        refine E_iaj 4 dX12_text_62 (by assumption) rfl (by decide) (by rw [n3]; decide) ?_
        refine E_icmp_ge (tgt := 70) dX12_text_63 (by decide) (fun c_63 => absurd c_63 (by rw [j8, j4]; exact nI_ge hp (by omega))) (fun c_63 => ?_)
        refine E_iconst (v := 1) dX12_text_66 (by decide) ?_
        refine E_goto (tgt := 71) dX12_text_67 (by decide) ?_
        refine E_pz dX12_text_71 gf_X12_160_12 rfl (by first | exact Or.inl rfl | exact Or.inr rfl | assumption) (by assumption) ?_
        refine E_aload_n (i := 0) dX12_text_74 rfl rfl ?_
        refine E_gr dX12_text_75 gf_X12_9_12 rfl (by assumption) (by assumption) ?_
        refine E_iconst (v := 4) dX12_text_78 (by decide) ?_
        refine E_iconst (v := 0) dX12_text_79 (by decide) ?_
        refine E_isj 4 dX12_text_80 (by assumption) rfl (by first | decide | omega) (by rw [n3]; decide) ?_
        refine E_aload_n (i := 0) dX12_text_81 rfl rfl ?_
        refine E_gi dX12_text_82 gf_X12_160_12 rfl (by assumption) ?_
        rw [u2_oth _ (by decide), u2_s]
        refine E_if_eq (tgt := 96) dX12_text_85 (by decide) (fun c_85 => absurd c_85 (by decide)) (fun c_85 => ?_)
        refine E_bipush (v := -10) dX12_text_88 (by decide) ?_
        refine E_aload_n (i := 0) dX12_text_90 rfl rfl ?_
        refine E_gi dX12_text_91 gf_X12_164_12 rfl (by assumption) ?_
        rw [u2_oth _ (by decide), u2_o (by decide), j8]
        refine E_isub dX12_text_94 ?_
        refine E_iret dX12_text_95 rfl ?_
        exact fin J hJ
  · have hΦ := h3 hc
    refine E_iload_n (i := 1) dX12_text_0 rfl rfl ?_
    refine E_iconst (v := 0) dX12_text_1 (by decide) ?_
    refine E_iconst (v := 1) dX12_text_2 (by decide) ?_
    refine k_X12_text_3 (mc' := 0) (ms' := 0) (rc := 0) (rs := 0) (by omega) (Nat.le_of_ble_eq_true rfl) (c_X12_within ?_)
    rw [bz_f hc]
    refine E_if_ne (tgt := 16) dX12_text_6 (by decide) (fun c_6 => absurd (rfl) c_6) (fun c_6 => ?_)
    refine E_aload_n (i := 0) dX12_text_9 rfl rfl ?_
    refine E_ldc (v := -1000000001) dX12_text_10 w_1208 ?_
    refine k_X12_text_12 (mc' := 0) (ms' := 0) (rc := 0) (rs := 0) (by omega) (Nat.le_of_ble_eq_true rfl) (by assumption) (c_find1 hM ?_)
    refine E_iret dX12_text_15 rfl ?_
    exact hΦ
end
