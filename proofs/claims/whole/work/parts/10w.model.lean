theorem updA_98 {A : Nat → Nat → Int32} {f g h : Nat → Int32} : updA (updA (updA A 18 f) 19 g) 18 h = updA (updA A 18 h) 19 g := by
  funext j
  by_cases e : j = 18
  · subst e; simp [updA]
  · by_cases e2 : j = 19
    · subst e2; simp [updA]
    · simp [updA, e, e2]
theorem ntP_lt {C : Nat} : ∀ (m : Nat) (f : Nat → Nat) (n k : Nat), (∀ j, j < m → f j < C) → n < fcN m → k < m → ntP m f n k < C
  | 0, _, _, _, _, _, h => absurd h (Nat.not_lt_zero _)
  | m + 1, f, n, k, h1, h2, h3 => by
    have hi : n / fcN m < m + 1 := (Nat.div_lt_iff_lt_mul (fcN_pos m)).mpr h2
    show (if k = 0 then f (n / fcN m) else ntP m (rmF f (n / fcN m)) (n % fcN m) (k - 1)) < C
    by_cases q : k = 0
    · rw [if_pos q]; exact h1 _ hi
    · rw [if_neg q]
      refine ntP_lt m _ _ _ (fun j hj => ?_) (Nat.mod_lt _ (fcN_pos m)) (by omega)
      unfold rmF
      split
      · exact h1 j (by omega)
      · exact h1 (j + 1) (by omega)
theorem fcN_le : ∀ m, m ≤ 5 → fcN m ≤ 120 := by decide
theorem fcN_div {m : Nat} : fcN (m + 1) / (m + 1) = fcN m := Nat.mul_div_cancel_left _ (Nat.succ_pos m)
set_option maxRecDepth 100000 in
set_option maxHeartbeats 1000000 in
theorem ct_X10_layOrder (n : Nat) (w se sp hr lt hd sc : Int32) (so fi wo : Nat → Int32) (I : Nat → Int32) (A : Nat → Nat → Int32) (B : Nat → Nat → Int64) (K : Value) (v : Int32) (q : Nat) (h_n : n ≤ 10) (h_m : mc v n ≤ 5) (h_q : q < fcN (mc v n)) : e_Ct yX10_layOrder cX10_layOrder 9 (some .int) 2 [.ref 0, .int v, .int (nI q)] (mH (n, w, se, sp, hr, lt, hd, sc, so, fi, wo) (I, A, B, K)) (fun r h => r = some (.int (nI (mc v n))) ∧ ∃ f18 f19, (∀ k, k < mc v n → f19 k = nI (ntP (mc v n) (mf v n) q k)) ∧ h = mH (n, w, se, sp, hr, lt, hd, sc, so, fi, wo) (I, updA (updA A 18 f18) 19 f19, B, K)) := by
  refine e_open RX10 rfl (by decide +kernel) rfl (fun _ => Nat.le_of_ble_eq_true rfl) (fun x X F => ?_)
  have hfc := fcN_le _ h_m
  have L4 : ∀ (m rest ww k at0 : Nat) (f : Nat → Int32) (g : Nat → Int32), m ≤ 5 → (∀ f2 : Nat → Int32, (∀ j, j < at0 → f2 j = f j) → (∀ j, at0 ≤ j → j + 1 < m → f2 j = f (j + 1)) → e_E x 139 [some (.ref 0), some (.int v), some (.int (nI q)), some (.int (nI m)), some (.int (nI rest)), some (.int (nI ww)), some (.int (nI k)), none, none] [] (mH (n, w, se, sp, hr, lt, hd, sc, so, fi, wo) (I, updA (updA A 18 f2) 19 g, B, K))) → ∀ (c i : Nat) (f2 : Nat → Int32), m - i < c → at0 ≤ i → i < m → (∀ j, j < at0 ∨ i ≤ j → f2 j = f j) → (∀ j, at0 ≤ j → j < i → f2 j = f (j + 1)) → e_E x 109 [some (.ref 0), some (.int v), some (.int (nI q)), some (.int (nI m)), some (.int (nI rest)), some (.int (nI ww)), some (.int (nI k)), some (.int (nI at0)), some (.int (nI i))] [] (mH (n, w, se, sp, hr, lt, hd, sc, so, fi, wo) (I, updA (updA A 18 f2) 19 g, B, K)) := by
    intro m rest ww k at0 f g hm5 hx c
    induction c with
    | zero => intro i f2 hc; exact absurd hc (Nat.not_lt_zero _)
    | succ c ih =>
      intro i f2 hc h1 h2 h3 h4
      refine ei_iload X dX10_layOrder_109 rfl ?_
      refine ei_iconst (v := nI 1) X dX10_layOrder_111 rfl ?_
      refine ei_iadd X dX10_layOrder_112 ?_
      rw [nI_add]
      refine ei_iload_n X dX10_layOrder_113 rfl rfl ?_
      refine ei_icmpn_ge (tgt := 139) X dX10_layOrder_114 (by decide) (by first | omega | assumption) (by first | omega | assumption) (fun cq114 => ?_) (fun cq114 => ?_)
      · refine ei_drop 7 ?_
        refine ei_drop 8 ?_
        exact hx f2 (fun j hj => h3 j (Or.inl hj)) (fun j a1 a2 => h4 j a1 (by omega))
      · refine ei_aload_n X dX10_layOrder_117 rfl rfl ?_
        refine ei_getf X fl_RX10_69 dX10_layOrder_118 rfl rfl ?_
        refine ei_iload X dX10_layOrder_121 rfl ?_
        refine ei_aload_n X dX10_layOrder_123 rfl rfl ?_
        refine ei_getf X fl_RX10_69 dX10_layOrder_124 rfl rfl ?_
        refine ei_iload X dX10_layOrder_127 rfl ?_
        refine ei_iconst (v := nI 1) X dX10_layOrder_129 rfl ?_
        refine ei_iadd X dX10_layOrder_130 ?_
        rw [nI_add]
        refine ei_iaload_n X dX10_layOrder_131 rfl (by first | omega | assumption) (by decide) ?_
        rw [updA_off (show (18 : Nat) ≠ 19 by decide), updA_on, h3 (i + 1) (by omega)]
        refine ei_iastore_n X dX10_layOrder_132 rfl (by first | omega | assumption) (by decide) (pm_r18 _ _ _ _ _ _ _ _ _ _ _ _ _ _ _ _) ?_
        rw [updA_off (show (18 : Nat) ≠ 19 by decide), updA_on, updA_98]
        refine ei_iinc_n X dX10_layOrder_133 rfl rfl ?_
        refine ei_goto (tgt := 109) X dX10_layOrder_136 (by decide) ?_
        exact ih (i + 1) _ (by omega) (by omega) (by omega) (fun j hj => by rw [pk_un (by omega)]; exact h3 j (by omega)) (fun j a1 a2 => by (by_cases e : j = i; (· subst e; exact pk_us); (· rw [pk_un e]; exact h4 j a1 (by omega))))
  have L3 : ∀ (c m k ww rest : Nat) (cu : Nat → Nat) (f g : Nat → Int32), m - k < c → k ≤ m → mc v n = m → rest < fcN (m - k) → (k < m → ww = fcN (m - k - 1)) → (∀ j, j < m - k → f j = nI (cu j)) → (∀ j, j < k → g j = nI (ntP m (mf v n) q j)) → (∀ j, j < m - k → ntP m (mf v n) q (k + j) = ntP (m - k) cu rest j) → e_E x 71 [some (.ref 0), some (.int v), some (.int (nI q)), some (.int (nI m)), some (.int (nI rest)), some (.int (nI ww)), some (.int (nI k)), none, none] [] (mH (n, w, se, sp, hr, lt, hd, sc, so, fi, wo) (I, updA (updA A 18 f) 19 g, B, K)) := by
    intro c
    induction c with
    | zero => intro m k ww rest cu f g hc; exact absurd hc (Nat.not_lt_zero _)
    | succ c ih =>
      intro m k ww rest cu f g hc hk hm hrs hw hf hg hn
      have hm5 : m ≤ 5 := by omega
      have KK : k < m → ∀ r, m - k = r + 1 → ww = fcN r → rest / fcN r ≤ r → ∀ f2 : Nat → Int32, (∀ j, j < rest / fcN r → f2 j = f j) → (∀ j, rest / fcN r ≤ j → j + 1 < m → f2 j = f (j + 1)) → e_E x 139 [some (.ref 0), some (.int v), some (.int (nI q)), some (.int (nI m)), some (.int (nI (rest % fcN r))), some (.int (nI ww)), some (.int (nI k)), none, none] [] (mH (n, w, se, sp, hr, lt, hd, sc, so, fi, wo) (I, updA (updA A 18 f2) 19 (upd g k (nI (cu (rest / fcN r)))), B, K)) := by
        intro hlt r hr1 hw1 hat f2 g1 g2
        subst hw1
        have hfr := fcN_le r (by omega)
        have nxt : ∀ w2 : Nat, (k + 1 < m → w2 = fcN (m - (k + 1) - 1)) → e_E x 71 [some (.ref 0), some (.int v), some (.int (nI q)), some (.int (nI m)), some (.int (nI (rest % fcN r))), some (.int (nI w2)), some (.int (nI (k + 1))), none, none] [] (mH (n, w, se, sp, hr, lt, hd, sc, so, fi, wo) (I, updA (updA A 18 f2) 19 (upd g k (nI (cu (rest / fcN r)))), B, K)) := by
          intro w2 hw2
          have em : m - (k + 1) = r := by omega
          refine ih m (k + 1) w2 (rest % fcN r) (rmF cu (rest / fcN r)) f2 _ (by omega) (by omega) hm (by rw [em]; exact Nat.mod_lt _ (fcN_pos r)) hw2 (fun j hj => ?_) (fun j hj => ?_) (fun j hj => ?_)
          · unfold rmF
            by_cases e : j < rest / fcN r
            · rw [if_pos e, g1 j e, hf j (by omega)]
            · rw [if_neg e, g2 j (by omega) (by omega), hf (j + 1) (by omega)]
          · by_cases e : j = k
            · subst e
              rw [pk_us]
              have h7 := hn 0 (by omega)
              rw [Nat.add_zero, hr1] at h7
              rw [h7]
              rfl
            · rw [pk_un e]; exact hg j (by omega)
          · have h7 := hn (j + 1) (by omega)
            rw [hr1] at h7
            rw [em, show k + 1 + j = k + (j + 1) by omega, h7]
            show (if j + 1 = 0 then _ else _) = _
            rw [if_neg (by omega), Nat.add_sub_cancel]
        refine ei_iload X dX10_layOrder_139 rfl ?_
        refine ei_iload_n X dX10_layOrder_141 rfl rfl ?_
        refine ei_iconst (v := nI 1) X dX10_layOrder_142 rfl ?_
        refine ei_isub X dX10_layOrder_143 ?_
        rw [show nI m - nI 1 = nI (m - 1) from nI_subN (by omega)]
        refine ei_icmpn_ge (tgt := 159) X dX10_layOrder_144 (by decide) (by first | omega | assumption) (by first | omega | assumption) (fun cq144 => ?_) (fun cq144 => ?_)
        · refine ei_iconst (v := nI 1) X dX10_layOrder_159 rfl ?_
          refine ei_istore X dX10_layOrder_160 (Nat.le_of_ble_eq_true rfl) rfl ?_
          refine ei_iinc_n X dX10_layOrder_162 rfl rfl ?_
          refine ei_goto (tgt := 71) X dX10_layOrder_165 (by decide) ?_
          exact nxt 1 (fun z => absurd z (by omega))
        · refine ei_iload X dX10_layOrder_147 rfl ?_
          refine ei_iload_n X dX10_layOrder_149 rfl rfl ?_
          refine ei_iconst (v := nI 1) X dX10_layOrder_150 rfl ?_
          refine ei_isub X dX10_layOrder_151 ?_
          rw [show nI m - nI 1 = nI (m - 1) from nI_subN (by omega)]
          refine ei_iload X dX10_layOrder_152 rfl ?_
          refine ei_isub X dX10_layOrder_154 ?_
          rw [nI_subN (by omega)]
          refine ei_idiv X dX10_layOrder_155 (nI_ne0 (by omega) (by omega)) ?_
          rw [pk_div (by omega) (by omega) (by omega)]
          refine ei_goto (tgt := 160) X dX10_layOrder_156 (by decide) ?_
          refine ei_istore X dX10_layOrder_160 (Nat.le_of_ble_eq_true rfl) rfl ?_
          refine ei_iinc_n X dX10_layOrder_162 rfl rfl ?_
          refine ei_goto (tgt := 71) X dX10_layOrder_165 (by decide) ?_
          exact nxt _ (fun z => by obtain ⟨r2, hr2⟩ : ∃ r2, r = r2 + 1 := ⟨r - 1, by omega⟩; rw [hr2, show m - 1 - k = r2 + 1 by omega, show m - (k + 1) - 1 = r2 by omega]; exact fcN_div)
      refine ei_iload X dX10_layOrder_71 rfl ?_
      refine ei_iload_n X dX10_layOrder_73 rfl rfl ?_
      refine ei_icmpn_ge (tgt := 168) X dX10_layOrder_74 (by decide) (by first | omega | assumption) (by first | omega | assumption) (fun cq74 => ?_) (fun cq74 => ?_)
      · refine ei_iload_n X dX10_layOrder_168 rfl rfl ?_
        refine ei_ireturn X F dX10_layOrder_169 ?_
        exact ⟨by rw [hm], f, g, fun j hj => by rw [hm]; exact hg j (by omega), rfl⟩
      · obtain ⟨r, hr1⟩ : ∃ r, m - k = r + 1 := ⟨m - k - 1, by omega⟩
        have hw1 : ww = fcN r := (by rw [hw (by omega)]; congr 1; omega)
        have hfr := fcN_le r (by omega)
        have hp := fcN_pos r
        have hrr : rest < fcN (r + 1) := (by rw [← hr1]; exact hrs)
        have hat : rest / fcN r ≤ r := (by have : rest / fcN r < r + 1 := (Nat.div_lt_iff_lt_mul hp).mpr hrr; omega)
        have hrb : rest < 1000 := (by have h8 := fcN_le (r + 1) (by omega); omega)
        rw [hw1]
        refine ei_iload X dX10_layOrder_77 rfl ?_
        refine ei_iload X dX10_layOrder_79 rfl ?_
        refine ei_idiv X dX10_layOrder_81 (nI_ne0 (by omega) (by omega)) ?_
        rw [pk_div (by omega) hp (by omega)]
        refine ei_istore X dX10_layOrder_82 (Nat.le_of_ble_eq_true rfl) rfl ?_
        refine ei_iload X dX10_layOrder_84 rfl ?_
        refine ei_iload X dX10_layOrder_86 rfl ?_
        refine ei_irem X dX10_layOrder_88 (nI_ne0 (by omega) (by omega)) ?_
        rw [pk_rem (by omega) hp (by omega)]
        refine ei_istore X dX10_layOrder_89 (Nat.le_of_ble_eq_true rfl) rfl ?_
        refine ei_aload_n X dX10_layOrder_91 rfl rfl ?_
        refine ei_getf X fl_RX10_72 dX10_layOrder_92 rfl rfl ?_
        refine ei_iload X dX10_layOrder_95 rfl ?_
        refine ei_aload_n X dX10_layOrder_97 rfl rfl ?_
        refine ei_getf X fl_RX10_69 dX10_layOrder_98 rfl rfl ?_
        refine ei_iload X dX10_layOrder_101 rfl ?_
        refine ei_iaload_n X dX10_layOrder_103 rfl (by first | omega | assumption) (by decide) ?_
        rw [updA_off (show (18 : Nat) ≠ 19 by decide), updA_on, hf _ (by omega)]
        refine ei_iastore_n X dX10_layOrder_104 rfl (by first | omega | assumption) (by decide) (pm_r19 _ _ _ _ _ _ _ _ _ _ _ _ _ _ _ _) ?_
        rw [updA_2, updA_on]
        refine ei_iload X dX10_layOrder_105 rfl ?_
        refine ei_istore X dX10_layOrder_107 (Nat.le_of_ble_eq_true rfl) rfl ?_
        have h9 := L4 m (rest % fcN r) (fcN r) k (rest / fcN r) f (upd g k (nI (cu (rest / fcN r)))) hm5 (by have h8 := KK (by omega) r hr1 hw1 hat; rw [hw1] at h8; exact h8) (m + 1) (rest / fcN r) f (Nat.lt_succ_of_le (Nat.sub_le _ _)) (Nat.le_refl _) (Nat.lt_of_le_of_lt hat (by omega)) (fun j _ => rfl) (fun j a1 a2 => absurd a1 (Nat.not_le.mpr a2))
        exact h9
  have L2 : ∀ (c m k : Nat) (f : Nat → Int32), 10 - k < c → 2 ≤ k → (k ≤ m ∨ k = 2) → mc v n = m → (∀ j, j < m → f j = nI (mf v n j)) → e_E x 49 [some (.ref 0), some (.int v), some (.int (nI q)), some (.int (nI m)), some (.int (nI q)), some (.int (nI (fcN (k - 1)))), some (.int (nI k)), none, none] [] (mH (n, w, se, sp, hr, lt, hd, sc, so, fi, wo) (I, updA A 18 f, B, K)) := by
    intro c
    induction c with
    | zero => intro m k f hc; exact absurd hc (Nat.not_lt_zero _)
    | succ c ih =>
      intro m k f hc hk hkm hm hf
      refine ei_iload X dX10_layOrder_49 rfl ?_
      refine ei_iload_n X dX10_layOrder_51 rfl rfl ?_
      refine ei_icmpn_ge (tgt := 68) X dX10_layOrder_52 (by decide) (by first | omega | assumption) (by first | omega | assumption) (fun cq52 => ?_) (fun cq52 => ?_)
      · refine ei_iconst (v := nI 0) X dX10_layOrder_68 rfl ?_
        refine ei_istore X dX10_layOrder_69 (Nat.le_of_ble_eq_true rfl) rfl ?_
        have h0 := L3 (m + 1) m 0 (fcN (k - 1)) q (mf v n) f ((updA A 18 f) 19) (by omega) (by omega) hm (by rw [Nat.sub_zero, ← hm]; exact h_q) (fun z => by (rcases hkm with y | y; (· congr 1; omega); (· rw [y]; rcases (by omega : m = 1 ∨ m = 2) with e | e <;> rw [e] <;> rfl))) (fun j hj => hf j (by omega)) (fun j hj => absurd hj (Nat.not_lt_zero _)) (fun j hj => by rw [Nat.zero_add, Nat.sub_zero])
        rw [updA_id] at h0
        exact h0
      · refine ei_iload X dX10_layOrder_55 rfl ?_
        refine ei_iload X dX10_layOrder_57 rfl ?_
        refine ei_imul X dX10_layOrder_59 ?_
        rw [nI_mul]
        refine ei_istore X dX10_layOrder_60 (Nat.le_of_ble_eq_true rfl) rfl ?_
        refine ei_iinc_n X dX10_layOrder_62 rfl rfl ?_
        refine ei_goto (tgt := 49) X dX10_layOrder_65 (by decide) ?_
        have h0 := ih m (k + 1) f (by omega) (by omega) (Or.inl (by omega)) hm hf
        rw [show k + 1 - 1 = (k - 1) + 1 by omega] at h0
        rw [show fcN (k - 1) * k = fcN ((k - 1) + 1) from by show _ = ((k - 1) + 1) * fcN (k - 1); rw [Nat.mul_comm]; congr 1; omega]
        exact h0
  have L1 : ∀ (c b m : Nat) (f : Nat → Int32), n - b < c → b ≤ n → mc v b = m → (∀ j, j < m → f j = nI (mf v b j)) → e_E x 5 [some (.ref 0), some (.int v), some (.int (nI q)), some (.int (nI m)), some (.int (nI b)), none, none, none, none] [] (mH (n, w, se, sp, hr, lt, hd, sc, so, fi, wo) (I, updA A 18 f, B, K)) := by
    intro c
    induction c with
    | zero => intro b m f hc; exact absurd hc (Nat.not_lt_zero _)
    | succ c ih =>
      intro b m f hc hb hm hf
      refine ei_iload X dX10_layOrder_5 rfl ?_
      refine ei_aload_n X dX10_layOrder_7 rfl rfl ?_
      refine ei_getf X fl_RX10_81 dX10_layOrder_8 rfl rfl ?_
      refine ei_icmpn_ge (tgt := 40) X dX10_layOrder_11 (by decide) (by first | omega | assumption) (by first | omega | assumption) (fun cq11 => ?_) (fun cq11 => ?_)
      · refine ei_iload_n X dX10_layOrder_40 rfl rfl ?_
        refine ei_istore X dX10_layOrder_41 (Nat.le_of_ble_eq_true rfl) rfl ?_
        refine ei_iconst (v := nI 1) X dX10_layOrder_43 rfl ?_
        refine ei_istore X dX10_layOrder_44 (Nat.le_of_ble_eq_true rfl) rfl ?_
        refine ei_iconst (v := nI 2) X dX10_layOrder_46 rfl ?_
        refine ei_istore X dX10_layOrder_47 (Nat.le_of_ble_eq_true rfl) rfl ?_
        obtain rfl : b = n := (by omega)
        exact L2 11 m 2 f (by omega) (by omega) (Or.inr rfl) hm hf
      · refine ei_iload_n X dX10_layOrder_14 rfl rfl ?_
        refine ei_iload X dX10_layOrder_15 rfl ?_
        refine ei_callT1 X ml_RX10_91 dX10_layOrder_17 (ct_X10_hasBit _ _ _) rfl rfl (by decide) (by decide) (Nat.le_of_ble_eq_true rfl) ?_
        refine ei_ifz_eq (tgt := 34) X dX10_layOrder_20 (by decide) (fun cq20 => ?_) (fun cq20 => ?_)
        · refine ei_iinc_n X dX10_layOrder_34 rfl rfl ?_
          refine ei_goto (tgt := 5) X dX10_layOrder_37 (by decide) ?_
          exact ih (b + 1) m f (by omega) (by omega) (by rw [mc_f cq20, hm]) (fun j hj => by rw [mf_st (b := b) (by omega) (by omega)]; exact hf j hj)
        · obtain ⟨-, q2⟩ := mf_at cq20 (show b < n by omega)
          refine ei_aload_n X dX10_layOrder_23 rfl rfl ?_
          refine ei_getf X fl_RX10_69 dX10_layOrder_24 rfl rfl ?_
          refine ei_iload_n X dX10_layOrder_27 rfl rfl ?_
          refine ei_iload X dX10_layOrder_28 rfl ?_
          refine ei_iastore_n X dX10_layOrder_30 rfl (by first | omega | assumption) (by decide) (pm_r18 _ _ _ _ _ _ _ _ _ _ _ _ _ _ _ _) ?_
          rw [updA_2, updA_on]
          refine ei_iinc_n X dX10_layOrder_31 rfl rfl ?_
          refine ei_iinc_n X dX10_layOrder_34 rfl rfl ?_
          refine ei_goto (tgt := 5) X dX10_layOrder_37 (by decide) ?_
          exact ih (b + 1) (m + 1) _ (by omega) (by omega) (by rw [mc_t cq20, hm]) (fun j hj => by (by_cases e : j = m; (· subst e; rw [pk_us]; congr 1; exact (if_pos ⟨cq20, hm.symm⟩).symm); (· rw [pk_un e, mf_st (b := b) (by omega) (by omega)]; exact hf j (by omega))))
  refine ei_iconst (v := nI 0) X dX10_layOrder_0 rfl ?_
  refine ei_istore_n X dX10_layOrder_1 rfl (Nat.le_of_ble_eq_true rfl) rfl ?_
  refine ei_iconst (v := nI 0) X dX10_layOrder_2 rfl ?_
  refine ei_istore X dX10_layOrder_3 (Nat.le_of_ble_eq_true rfl) rfl ?_
  have h0 := L1 (n + 1) 0 0 (A 18) (by omega) (by omega) rfl (fun j hj => absurd hj (Nat.not_lt_zero _))
  rw [updA_id] at h0
  exact h0

