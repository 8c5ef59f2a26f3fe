theorem RS_set {Z : Nat → Sh} {I J : Nat → Int32} {A A2 : Nat → Nat → Int32} {B B2 : Nat → Nat → Int64} {K K2 : Value} {d : Nat} {z : Sh} (h : RS Z (I, A, B, K)) (hz : okZ z) (h4 : A2 4 d = zH z) (h5 : zH z = 1 → A2 5 d = zS z ∧ A2 6 d = zF z) (h7 : zH z = 2 → A2 7 d = zK z ∧ A2 8 d = nI (zN z) ∧ ∀ k, k < 100 → B2 9 (100 * d + k) = (zC z k).toInt64)
    (ho : ∀ e, e < 8 → e ≠ d → (∀ c, 4 ≤ c ∧ c ≤ 8 → A2 c e = A c e) ∧ ∀ k, k < 100 → B2 9 (100 * e + k) = B 9 (100 * e + k)) : RS (setZ Z d z) (J, A2, B2, K2) := by
  intro e he
  by_cases q : e = d
  · subst q
    rw [setZ_on]
    exact ⟨hz, h4, h5, h7⟩
  · rw [setZ_off q]
    obtain ⟨o1, o2, o3, o4⟩ := h e he
    obtain ⟨g1, g2⟩ := ho e he q
    refine ⟨o1, (g1 4 (by omega)).trans o2, fun z => ⟨(g1 5 (by omega)).trans (o3 z).1, (g1 6 (by omega)).trans (o3 z).2⟩, fun z => ⟨(g1 7 (by omega)).trans (o4 z).1, (g1 8 (by omega)).trans (o4 z).2.1, fun k hk => (g2 k hk).trans ((o4 z).2.2 k hk)⟩⟩
/-- what a call that changes a shelf leaves -/
def kX (M M' : MX) : Prop := (∀ k, k = 11 ∨ k = 12 ∨ k = 30 → M'.1 k = M.1 k) ∧ M'.2.1 14 = M.2.1 14
def mZ (r : Option Value) (S : St) (Z : Nat → Sh) (M : MX) : Option Value → List eC → Prop := fun r' h' => r' = r ∧ ∃ M', kX M M' ∧ RS Z M' ∧ h' = mH S M'
theorem kX_20 (I : Nat → Int32) (A A2 : Nat → Nat → Int32) (B B2 : Nat → Nat → Int64) (K : Value) (v : Int32) (h : A2 14 = A 14) : kX (I, A, B, K) (upd I 20 v, A2, B2, K) := ⟨fun k hk => pk_un (by omega), h⟩
set_option maxRecDepth 100000 in
set_option maxHeartbeats 4000000 in
theorem ct_X10_keep (n : Nat) (w se sp hr lt hd sc : Int32) (so fi wo : Nat → Int32) (I : Nat → Int32) (A : Nat → Nat → Int32) (B : Nat → Nat → Int64) (K : Value) (Z : Nat → Sh) (d what ks fg : Int32) (h_R : RS Z (I, A, B, K)) : e_Ct yX10_keep cX10_keep 5 (some .int) 2 [.ref 0, .int d, .int what, .int ks, .int fg] (mH (n, w, se, sp, hr, lt, hd, sc, so, fi, wo) (I, A, B, K)) (mZ (some (.int (keepF d what ks fg))) (n, w, se, sp, hr, lt, hd, sc, so, fi, wo) (keepZ Z d what ks fg) (I, A, B, K)) := by
  refine e_open RX10 rfl (by decide +kernel) rfl (fun _ => Nat.le_of_ble_eq_true rfl) (fun x X F => ?_)
  have b0 : keepC d what ks fg = false → ∀ v, v = -1 → mZ (some (.int (keepF d what ks fg))) (n, w, se, sp, hr, lt, hd, sc, so, fi, wo) (keepZ Z d what ks fg) (I, A, B, K) (some (.int v)) (mH (n, w, se, sp, hr, lt, hd, sc, so, fi, wo) (upd I 20 0, A, B, K)) := by
    intro h v hv
    exact ⟨by simp only [keepF, h, Bool.false_eq_true, if_false, hv], _, kX_20 _ _ _ _ _ _ 0 rfl, by simp only [keepZ, h, Bool.false_eq_true, if_false]; exact RS_20 _ _ _ _ h_R 0, rfl⟩
  have b1 : ∀ (k : Nat) (a5 a6 : Int32), k < 8 → d = nI k → keepC d what ks fg = true → (what = 0 ∨ what = 1 ∧ a5 = ks ∧ a6 = fg) → mZ (some (.int (keepF d what ks fg))) (n, w, se, sp, hr, lt, hd, sc, so, fi, wo) (keepZ Z d what ks fg) (I, A, B, K) (some (.int 0)) (mH (n, w, se, sp, hr, lt, hd, sc, so, fi, wo) (upd I 20 0, updA (updA (updA A 4 (upd (A 4) k what)) 5 (upd (updA A 4 (upd (A 4) k what) 5) k a5)) 6 (upd (updA (updA A 4 (upd (A 4) k what)) 5 (upd (updA A 4 (upd (A 4) k what) 5) k a5) 6) k a6), B, K)) := by
    intro k a5 a6 hk hd h hw
    subst hd
    have hnc : nc (nI k) = k := nc_nI (by omega)
    obtain ⟨o1, o2, o3, o4⟩ := h_R k hk
    refine ⟨by simp only [keepF, h, if_true], _, kX_20 _ _ _ _ _ _ 0 (by simp [updA]), ?_, rfl⟩
    simp only [keepZ, h, if_true, hnc]
    have off : ∀ e, e < 8 → e ≠ k → (∀ c, 4 ≤ c ∧ c ≤ 8 → updA (updA (updA A 4 (upd (A 4) k what)) 5 (upd (updA A 4 (upd (A 4) k what) 5) k a5)) 6 (upd (updA (updA A 4 (upd (A 4) k what)) 5 (upd (updA A 4 (upd (A 4) k what) 5) k a5) 6) k a6) c e = A c e) ∧ ∀ k, k < 100 → B 9 (100 * e + k) = B 9 (100 * e + k) := by
      intro e he hne
      refine ⟨fun c hc => ?_, fun k hk => rfl⟩
      by_cases q4 : c = 4
      · subst q4; simp [updA, upd, hne]
      by_cases q5 : c = 5
      · subst q5; simp [updA, upd, hne]
      by_cases q6 : c = 6
      · subst q6; simp [updA, upd, hne]
      · simp [updA, q4, q5, q6]
    rcases hw with rfl | ⟨rfl, rfl, rfl⟩
    · rw [if_pos rfl]
      exact RS_set h_R ⟨Or.inl rfl, fun z => absurd (show (0 : Int32) = 1 from z) (by decide), fun z => absurd (show (0 : Int32) = 2 from z) (by decide)⟩ (by simp [updA, upd]) (fun z => absurd (show (0 : Int32) = 1 from z) (by decide)) (fun z => absurd (show (0 : Int32) = 2 from z) (by decide)) off
    · rw [if_neg (by decide)]
      refine RS_set h_R ⟨Or.inr (Or.inl rfl), fun _ => ?_, fun z => absurd (show (1 : Int32) = 2 from z) (by decide)⟩ (by simp [updA, upd]) (fun _ => by simp [updA, upd]) (fun z => absurd (show (1 : Int32) = 2 from z) (by decide)) off
      simp only [keepC, Bool.and_eq_true, Bool.or_eq_true, decide_eq_true_eq] at h
      obtain ⟨-, -, h3⟩ := h
      rcases h3 with h3 | ⟨h3, h4⟩
      · exact absurd h3 (by decide)
      · obtain ⟨a, -, ha, rfl⟩ := (inI_iff (lo := 0) (hi := 7) (by decide) (by decide)).mp h3
        obtain ⟨b, -, hb, rfl⟩ := (inI_iff (lo := 0) (hi := 9) (by decide) (by decide)).mp h4
        exact ⟨⟨by show 0 ≤ (nI a).toInt; rw [nI_toInt (by omega)]; omega, by show (nI a).toInt ≤ 7; rw [nI_toInt (by omega)]; omega⟩, ⟨by show 0 ≤ (nI b).toInt; rw [nI_toInt (by omega)]; omega, by show (nI b).toInt ≤ 9; rw [nI_toInt (by omega)]; omega⟩⟩
  refine ei_aload_n X dX10_keep_0 rfl rfl ?_
  refine ei_iconst (v := 0) X dX10_keep_1 rfl ?_
  refine ei_puti X fp_RX10_78 dX10_keep_2 rfl (Nat.le_of_ble_eq_true rfl) (pm_20 _ _ _ _ _ _ _ _ _ _ _ _ _ _ _ _) ?_
  refine ei_iload_n X dX10_keep_5 rfl rfl ?_
  refine ei_i2l X dX10_keep_6 ?_
  refine ei_lconst (v := 0) X dX10_keep_7 rfl ?_
  refine ei_ldc2 X cw_RX10_253 dX10_keep_8 ?_
  refine ei_callT1 X ml_RX10_84 dX10_keep_11 (ct_X10_in _ _ _ _) rfl rfl (by decide) (by decide) (Nat.le_of_ble_eq_true rfl) ?_
  rw [in_0_7]
  refine ei_ifz_eq (tgt := 57) X dX10_keep_14 (by decide) (fun cq14 => ?_) (fun cq14 => ?_)
  · refine ei_iconst (v := -1) X dX10_keep_57 rfl ?_
    refine ei_ireturn X F dX10_keep_58 ?_
    exact b0 (by simp [keepC, cq14]) _ rfl
  · obtain ⟨k, -, hk, rfl⟩ := (inI_iff (lo := 0) (hi := 7) (by decide) (by decide)).mp cq14
    refine ei_iload_n X dX10_keep_17 rfl rfl ?_
    refine ei_i2l X dX10_keep_18 ?_
    refine ei_lconst (v := 0) X dX10_keep_19 rfl ?_
    refine ei_lconst (v := 1) X dX10_keep_20 rfl ?_
    refine ei_callT1 X ml_RX10_84 dX10_keep_21 (ct_X10_in _ _ _ _) rfl rfl (by decide) (by decide) (Nat.le_of_ble_eq_true rfl) ?_
    rw [in_0_1]
    refine ei_ifz_eq (tgt := 57) X dX10_keep_24 (by decide) (fun cq24 => ?_) (fun cq24 => ?_)
    · refine ei_iconst (v := -1) X dX10_keep_57 rfl ?_
      refine ei_ireturn X F dX10_keep_58 ?_
      exact b0 (by simp [keepC, cq24]) _ rfl
    · refine ei_iload_n X dX10_keep_27 rfl rfl ?_
      refine ei_iconst (v := 1) X dX10_keep_28 rfl ?_
      refine ei_icmp_ne (tgt := 59) X dX10_keep_29 (by decide) (fun cq29 => ?_) (fun cq29 => ?_)
      · have w0 : what = 0 := by (obtain ⟨a, -, ha, rfl⟩ := (inI_iff (lo := 0) (hi := 1) (by decide) (by decide)).mp cq24; rcases (by omega : a = 0 ∨ a = 1) with rfl | rfl; (· rfl); exact absurd rfl cq29)
        have hc : keepC (nI k) what ks fg = true := by simp only [keepC, cq14, cq24, decide_eq_true w0]; rfl
        refine ei_aload_n X dX10_keep_59 rfl rfl ?_
        refine ei_getf X fl_RX10_26 dX10_keep_60 rfl rfl ?_
        refine ei_iload_n X dX10_keep_63 rfl rfl ?_
        refine ei_iload_n X dX10_keep_64 rfl rfl ?_
        refine ei_iastore_n X dX10_keep_65 rfl (by first | omega | assumption) (by decide) (pm_r4 _ _ _ _ _ _ _ _ _ _ _ _ _ _ _ _) ?_
        refine ei_aload_n X dX10_keep_66 rfl rfl ?_
        refine ei_getf X fl_RX10_29 dX10_keep_67 rfl rfl ?_
        refine ei_iload_n X dX10_keep_70 rfl rfl ?_
        refine ei_iload_n X dX10_keep_71 rfl rfl ?_
        refine ei_iconst (v := 1) X dX10_keep_72 rfl ?_
        refine ei_icmp_ne (tgt := 80) X dX10_keep_73 (by decide) (fun cq73 => ?_) (fun cq73 => ?_)
        · refine ei_iconst (v := 0) X dX10_keep_80 rfl ?_
          refine ei_iastore_n X dX10_keep_81 rfl (by first | omega | assumption) (by decide) (pm_r5 _ _ _ _ _ _ _ _ _ _ _ _ _ _ _ _) ?_
          refine ei_aload_n X dX10_keep_82 rfl rfl ?_
          refine ei_getf X fl_RX10_32 dX10_keep_83 rfl rfl ?_
          refine ei_iload_n X dX10_keep_86 rfl rfl ?_
          refine ei_iload_n X dX10_keep_87 rfl rfl ?_
          refine ei_iconst (v := 1) X dX10_keep_88 rfl ?_
          refine ei_icmp_ne (tgt := 97) X dX10_keep_89 (by decide) (fun cq89 => ?_) (fun cq89 => ?_)
          · refine ei_iconst (v := 0) X dX10_keep_97 rfl ?_
            refine ei_iastore_n X dX10_keep_98 rfl (by first | omega | assumption) (by decide) (pm_r6 _ _ _ _ _ _ _ _ _ _ _ _ _ _ _ _) ?_
            refine ei_iconst (v := 0) X dX10_keep_99 rfl ?_
            refine ei_ireturn X F dX10_keep_100 ?_
            first | exact b1 k _ _ (by omega) rfl hc (Or.inl w0) | exact b1 k _ _ (by omega) rfl hc (Or.inr ⟨cq29, rfl, rfl⟩) | exact absurd cq29 cq73 | exact absurd cq29 cq89 | exact absurd cq73 cq29 | exact absurd cq89 cq29
          · refine ei_iload X dX10_keep_92 rfl ?_
            refine ei_goto (tgt := 98) X dX10_keep_94 (by decide) ?_
            refine ei_iastore_n X dX10_keep_98 rfl (by first | omega | assumption) (by decide) (pm_r6 _ _ _ _ _ _ _ _ _ _ _ _ _ _ _ _) ?_
            refine ei_iconst (v := 0) X dX10_keep_99 rfl ?_
            refine ei_ireturn X F dX10_keep_100 ?_
            first | exact b1 k _ _ (by omega) rfl hc (Or.inl w0) | exact b1 k _ _ (by omega) rfl hc (Or.inr ⟨cq29, rfl, rfl⟩) | exact absurd cq29 cq73 | exact absurd cq29 cq89 | exact absurd cq73 cq29 | exact absurd cq89 cq29
        · refine ei_iload_n X dX10_keep_76 rfl rfl ?_
          refine ei_goto (tgt := 81) X dX10_keep_77 (by decide) ?_
          refine ei_iastore_n X dX10_keep_81 rfl (by first | omega | assumption) (by decide) (pm_r5 _ _ _ _ _ _ _ _ _ _ _ _ _ _ _ _) ?_
          refine ei_aload_n X dX10_keep_82 rfl rfl ?_
          refine ei_getf X fl_RX10_32 dX10_keep_83 rfl rfl ?_
          refine ei_iload_n X dX10_keep_86 rfl rfl ?_
          refine ei_iload_n X dX10_keep_87 rfl rfl ?_
          refine ei_iconst (v := 1) X dX10_keep_88 rfl ?_
          refine ei_icmp_ne (tgt := 97) X dX10_keep_89 (by decide) (fun cq89 => ?_) (fun cq89 => ?_)
          · refine ei_iconst (v := 0) X dX10_keep_97 rfl ?_
            refine ei_iastore_n X dX10_keep_98 rfl (by first | omega | assumption) (by decide) (pm_r6 _ _ _ _ _ _ _ _ _ _ _ _ _ _ _ _) ?_
            refine ei_iconst (v := 0) X dX10_keep_99 rfl ?_
            refine ei_ireturn X F dX10_keep_100 ?_
            first | exact b1 k _ _ (by omega) rfl hc (Or.inl w0) | exact b1 k _ _ (by omega) rfl hc (Or.inr ⟨cq29, rfl, rfl⟩) | exact absurd cq29 cq73 | exact absurd cq29 cq89 | exact absurd cq73 cq29 | exact absurd cq89 cq29
          · refine ei_iload X dX10_keep_92 rfl ?_
            refine ei_goto (tgt := 98) X dX10_keep_94 (by decide) ?_
            refine ei_iastore_n X dX10_keep_98 rfl (by first | omega | assumption) (by decide) (pm_r6 _ _ _ _ _ _ _ _ _ _ _ _ _ _ _ _) ?_
            refine ei_iconst (v := 0) X dX10_keep_99 rfl ?_
            refine ei_ireturn X F dX10_keep_100 ?_
            first | exact b1 k _ _ (by omega) rfl hc (Or.inl w0) | exact b1 k _ _ (by omega) rfl hc (Or.inr ⟨cq29, rfl, rfl⟩) | exact absurd cq29 cq73 | exact absurd cq29 cq89 | exact absurd cq73 cq29 | exact absurd cq89 cq29
      · refine ei_iload_n X dX10_keep_32 rfl rfl ?_
        refine ei_i2l X dX10_keep_33 ?_
        refine ei_lconst (v := 0) X dX10_keep_34 rfl ?_
        refine ei_ldc2 X cw_RX10_253 dX10_keep_35 ?_
        refine ei_callT1 X ml_RX10_84 dX10_keep_38 (ct_X10_in _ _ _ _) rfl rfl (by decide) (by decide) (Nat.le_of_ble_eq_true rfl) ?_
        rw [in_0_7]
        refine ei_ifz_eq (tgt := 57) X dX10_keep_41 (by decide) (fun cq41 => ?_) (fun cq41 => ?_)
        · refine ei_iconst (v := -1) X dX10_keep_57 rfl ?_
          refine ei_ireturn X F dX10_keep_58 ?_
          exact b0 (by simp [keepC, cq29, cq41]) _ rfl
        · refine ei_iload X dX10_keep_44 rfl ?_
          refine ei_i2l X dX10_keep_46 ?_
          refine ei_lconst (v := 0) X dX10_keep_47 rfl ?_
          refine ei_ldc2 X cw_RX10_260 dX10_keep_48 ?_
          refine ei_callT1 X ml_RX10_84 dX10_keep_51 (ct_X10_in _ _ _ _) rfl rfl (by decide) (by decide) (Nat.le_of_ble_eq_true rfl) ?_
          rw [in_0_9]
          refine ei_ifz_ne (tgt := 59) X dX10_keep_54 (by decide) (fun cq54 => ?_) (fun cq54 => ?_)
          · have hc : keepC (nI k) what ks fg = true := by simp [keepC, cq14, cq24, cq41, cq54]
            refine ei_aload_n X dX10_keep_59 rfl rfl ?_
            refine ei_getf X fl_RX10_26 dX10_keep_60 rfl rfl ?_
            refine ei_iload_n X dX10_keep_63 rfl rfl ?_
            refine ei_iload_n X dX10_keep_64 rfl rfl ?_
            refine ei_iastore_n X dX10_keep_65 rfl (by first | omega | assumption) (by decide) (pm_r4 _ _ _ _ _ _ _ _ _ _ _ _ _ _ _ _) ?_
            refine ei_aload_n X dX10_keep_66 rfl rfl ?_
            refine ei_getf X fl_RX10_29 dX10_keep_67 rfl rfl ?_
            refine ei_iload_n X dX10_keep_70 rfl rfl ?_
            refine ei_iload_n X dX10_keep_71 rfl rfl ?_
            refine ei_iconst (v := 1) X dX10_keep_72 rfl ?_
            refine ei_icmp_ne (tgt := 80) X dX10_keep_73 (by decide) (fun cq73 => ?_) (fun cq73 => ?_)
            · refine ei_iconst (v := 0) X dX10_keep_80 rfl ?_
              refine ei_iastore_n X dX10_keep_81 rfl (by first | omega | assumption) (by decide) (pm_r5 _ _ _ _ _ _ _ _ _ _ _ _ _ _ _ _) ?_
              refine ei_aload_n X dX10_keep_82 rfl rfl ?_
              refine ei_getf X fl_RX10_32 dX10_keep_83 rfl rfl ?_
              refine ei_iload_n X dX10_keep_86 rfl rfl ?_
              refine ei_iload_n X dX10_keep_87 rfl rfl ?_
              refine ei_iconst (v := 1) X dX10_keep_88 rfl ?_
              refine ei_icmp_ne (tgt := 97) X dX10_keep_89 (by decide) (fun cq89 => ?_) (fun cq89 => ?_)
              · refine ei_iconst (v := 0) X dX10_keep_97 rfl ?_
                refine ei_iastore_n X dX10_keep_98 rfl (by first | omega | assumption) (by decide) (pm_r6 _ _ _ _ _ _ _ _ _ _ _ _ _ _ _ _) ?_
                refine ei_iconst (v := 0) X dX10_keep_99 rfl ?_
                refine ei_ireturn X F dX10_keep_100 ?_
                first | exact b1 k _ _ (by omega) rfl hc (Or.inl w0) | exact b1 k _ _ (by omega) rfl hc (Or.inr ⟨cq29, rfl, rfl⟩) | exact absurd cq29 cq73 | exact absurd cq29 cq89 | exact absurd cq73 cq29 | exact absurd cq89 cq29
              · refine ei_iload X dX10_keep_92 rfl ?_
                refine ei_goto (tgt := 98) X dX10_keep_94 (by decide) ?_
                refine ei_iastore_n X dX10_keep_98 rfl (by first | omega | assumption) (by decide) (pm_r6 _ _ _ _ _ _ _ _ _ _ _ _ _ _ _ _) ?_
                refine ei_iconst (v := 0) X dX10_keep_99 rfl ?_
                refine ei_ireturn X F dX10_keep_100 ?_
                first | exact b1 k _ _ (by omega) rfl hc (Or.inl w0) | exact b1 k _ _ (by omega) rfl hc (Or.inr ⟨cq29, rfl, rfl⟩) | exact absurd cq29 cq73 | exact absurd cq29 cq89 | exact absurd cq73 cq29 | exact absurd cq89 cq29
            · refine ei_iload_n X dX10_keep_76 rfl rfl ?_
              refine ei_goto (tgt := 81) X dX10_keep_77 (by decide) ?_
              refine ei_iastore_n X dX10_keep_81 rfl (by first | omega | assumption) (by decide) (pm_r5 _ _ _ _ _ _ _ _ _ _ _ _ _ _ _ _) ?_
              refine ei_aload_n X dX10_keep_82 rfl rfl ?_
              refine ei_getf X fl_RX10_32 dX10_keep_83 rfl rfl ?_
              refine ei_iload_n X dX10_keep_86 rfl rfl ?_
              refine ei_iload_n X dX10_keep_87 rfl rfl ?_
              refine ei_iconst (v := 1) X dX10_keep_88 rfl ?_
              refine ei_icmp_ne (tgt := 97) X dX10_keep_89 (by decide) (fun cq89 => ?_) (fun cq89 => ?_)
              · refine ei_iconst (v := 0) X dX10_keep_97 rfl ?_
                refine ei_iastore_n X dX10_keep_98 rfl (by first | omega | assumption) (by decide) (pm_r6 _ _ _ _ _ _ _ _ _ _ _ _ _ _ _ _) ?_
                refine ei_iconst (v := 0) X dX10_keep_99 rfl ?_
                refine ei_ireturn X F dX10_keep_100 ?_
                first | exact b1 k _ _ (by omega) rfl hc (Or.inl w0) | exact b1 k _ _ (by omega) rfl hc (Or.inr ⟨cq29, rfl, rfl⟩) | exact absurd cq29 cq73 | exact absurd cq29 cq89 | exact absurd cq73 cq29 | exact absurd cq89 cq29
              · refine ei_iload X dX10_keep_92 rfl ?_
                refine ei_goto (tgt := 98) X dX10_keep_94 (by decide) ?_
                refine ei_iastore_n X dX10_keep_98 rfl (by first | omega | assumption) (by decide) (pm_r6 _ _ _ _ _ _ _ _ _ _ _ _ _ _ _ _) ?_
                refine ei_iconst (v := 0) X dX10_keep_99 rfl ?_
                refine ei_ireturn X F dX10_keep_100 ?_
                first | exact b1 k _ _ (by omega) rfl hc (Or.inl w0) | exact b1 k _ _ (by omega) rfl hc (Or.inr ⟨cq29, rfl, rfl⟩) | exact absurd cq29 cq73 | exact absurd cq29 cq89 | exact absurd cq73 cq29 | exact absurd cq89 cq29
          · refine ei_iconst (v := -1) X dX10_keep_57 rfl ?_
            refine ei_ireturn X F dX10_keep_58 ?_
            exact b0 (by simp [keepC, cq29, cq54]) _ rfl
theorem updB_on {B : Nat → Nat → Int64} {c : Nat} {f : Nat → Int64} : updB B c f c = f := by simp [updB]
theorem updB_2 {B : Nat → Nat → Int64} {c : Nat} {f g : Nat → Int64} : updB (updB B c f) c g = updB B c g := by
  funext j
  by_cases h : j = c
  · subst h; rw [updB_on, updB_on]
  · simp [updB, h]
theorem updB_id {B : Nat → Nat → Int64} {c : Nat} : updB B c (B c) = B := by
  funext j
  by_cases h : j = c
  · subst h; exact updB_on
  · simp [updB, h]
set_option maxRecDepth 100000 in
set_option maxHeartbeats 4000000 in
theorem ct_X10_row (n : Nat) (w se sp hr lt hd sc : Int32) (so fi wo : Nat → Int32) (I : Nat → Int32) (A : Nat → Nat → Int32) (B : Nat → Nat → Int64) (K : Value) (Z : Nat → Sh) (d s m : Int32) (h_R : RS Z (I, A, B, K)) : e_Ct yX10_row cX10_row 5 (some .int) 2 [.ref 0, .int d, .int s, .int m] (mH (n, w, se, sp, hr, lt, hd, sc, so, fi, wo) (I, A, B, K)) (mZ (some (.int (rowF d s m))) (n, w, se, sp, hr, lt, hd, sc, so, fi, wo) (rowZ Z d s m) (I, A, B, K)) := by
  refine e_open RX10 rfl (by decide +kernel) rfl (fun _ => Nat.le_of_ble_eq_true rfl) (fun x X F => ?_)
  have b0 : rowC d s m = false → mZ (some (.int (rowF d s m))) (n, w, se, sp, hr, lt, hd, sc, so, fi, wo) (rowZ Z d s m) (I, A, B, K) (some (.int (-1))) (mH (n, w, se, sp, hr, lt, hd, sc, so, fi, wo) (upd I 20 0, A, B, K)) := by
    intro h
    exact ⟨by simp only [rowF, h, Bool.false_eq_true, if_false], _, kX_20 _ _ _ _ _ _ 0 rfl, by simp only [rowZ, h, Bool.false_eq_true, if_false]; exact RS_20 _ _ _ _ h_R 0, rfl⟩
  have L : ∀ (k b : Nat), k < 8 → b ≤ 100 → d = nI k → m = nI b → (s = 0 ∨ s = 1 ∨ s = 2) → rowC (nI k) s (nI b) = true → ∀ (c i : Nat) (f : Nat → Int64), 100 - i < c → i ≤ 100 → (∀ j, j < i → f (100 * k + j) = 0) → (∀ j, j < 100 * k ∨ 100 * k + 100 ≤ j → f j = B 9 j) → e_E x 68 [some (.ref 0), some (.int (nI k)), some (.int s), some (.int (nI b)), some (.int (nI i))] [] (mH (n, w, se, sp, hr, lt, hd, sc, so, fi, wo) (upd I 20 0, updA (updA (updA A 4 (upd (A 4) k 2)) 7 (upd (updA A 4 (upd (A 4) k 2) 7) k s)) 8 (upd (updA (updA A 4 (upd (A 4) k 2)) 7 (upd (updA A 4 (upd (A 4) k 2) 7) k s) 8) k (nI b)), updB B 9 f, K)) := by
    intro k b hk8 hb hd hm hs hc c
    have hnc : nc (nI k) = k := nc_nI (by omega)
    have hnb : nc (nI b) = b := nc_nI (by omega)
    induction c with
    | zero => intro i f hc; exact absurd hc (Nat.not_lt_zero _)
    | succ c ih =>
      intro i f hc2 hi hf hg
      refine ei_iload X dX10_row_68 rfl ?_
      refine ei_bipush (v := nI 100) X dX10_row_70 rfl ?_
      refine ei_icmpn_ge (tgt := 94) X dX10_row_72 (by decide) (by first | omega | assumption) (by first | omega | assumption) (fun cq72 => ?_) (fun cq72 => ?_)
      · refine ei_iconst (v := 0) X dX10_row_94 rfl ?_
        refine ei_ireturn X F dX10_row_95 ?_
        refine ⟨by rw [hd, hm]; simp only [rowF, hc, if_true, if_neg (nI_pos (by omega : b < 2 ^ 31))], _, kX_20 _ _ _ _ _ _ 0 (by simp [updA]), ?_, rfl⟩
        rw [hd, hm]
        simp only [rowZ, hc, if_true, if_neg (nI_pos (by omega : b < 2 ^ 31)), hnc, hnb]
        refine RS_set h_R ⟨Or.inr (Or.inr rfl), fun z => absurd (show (2 : Int32) = 1 from z) (by decide), fun _ => ⟨hs, hb⟩⟩ (by simp [updA, upd]) (fun z => absurd (show (2 : Int32) = 1 from z) (by decide)) (fun _ => ⟨by simp [updA, upd], by simp [updA, upd], fun j hj => by rw [updB_on]; exact hf j (by omega)⟩) (fun e he hne => ⟨fun c hc => ?_, fun j hj => by rw [updB_on]; exact hg _ (by omega)⟩)
        by_cases q4 : c = 4
        · subst q4; simp [updA, upd, hne]
        by_cases q5 : c = 7
        · subst q5; simp [updA, upd, hne]
        by_cases q6 : c = 8
        · subst q6; simp [updA, upd, hne]
        · simp [updA, q4, q5, q6]
      · refine ei_aload_n X dX10_row_75 rfl rfl ?_
        refine ei_getf X fl_RX10_41 dX10_row_76 rfl rfl ?_
        refine ei_bipush (v := nI 100) X dX10_row_79 rfl ?_
        refine ei_iload_n X dX10_row_81 rfl rfl ?_
        refine ei_imul X dX10_row_82 ?_
        rw [nI_mul]
        refine ei_iload X dX10_row_83 rfl ?_
        refine ei_iadd X dX10_row_85 ?_
        rw [nI_add]
        refine ei_lconst (v := 0) X dX10_row_86 rfl ?_
        refine ei_lastore_n X dX10_row_87 rfl (by first | omega | assumption) (by decide) (pm_r9 _ _ _ _ _ _ _ _ _ _ _ _ _ _ _ _) ?_
        refine ei_iinc_n X dX10_row_88 rfl rfl ?_
        refine ei_goto (tgt := 68) X dX10_row_91 (by decide) ?_
        rw [updB_2, updB_on]
        exact ih (i + 1) _ (by omega) (by omega) (fun j hj => by unfold vp_updL; split; rfl; exact hf j (by omega)) (fun j hj => by unfold vp_updL; rw [if_neg (by omega)]; exact hg j hj)
  refine ei_aload_n X dX10_row_0 rfl rfl ?_
  refine ei_iconst (v := 0) X dX10_row_1 rfl ?_
  refine ei_puti X fp_RX10_78 dX10_row_2 rfl (Nat.le_of_ble_eq_true rfl) (pm_20 _ _ _ _ _ _ _ _ _ _ _ _ _ _ _ _) ?_
  refine ei_iload_n X dX10_row_5 rfl rfl ?_
  refine ei_i2l X dX10_row_6 ?_
  refine ei_lconst (v := 0) X dX10_row_7 rfl ?_
  refine ei_ldc2 X cw_RX10_253 dX10_row_8 ?_
  refine ei_callT1 X ml_RX10_84 dX10_row_11 (ct_X10_in _ _ _ _) rfl rfl (by decide) (by decide) (Nat.le_of_ble_eq_true rfl) ?_
  rw [in_0_7]
  refine ei_ifz_eq (tgt := 35) X dX10_row_14 (by decide) (fun cq14 => ?_) (fun cq14 => ?_)
  · refine ei_iconst (v := -1) X dX10_row_35 rfl ?_
    refine ei_ireturn X F dX10_row_36 ?_
    exact b0 (by simp [rowC, cq14])
  · obtain ⟨k, -, hk, rfl⟩ := (inI_iff (lo := 0) (hi := 7) (by decide) (by decide)).mp cq14
    have hnc : nc (nI k) = k := nc_nI (by omega)
    refine ei_iload_n X dX10_row_17 rfl rfl ?_
    refine ei_i2l X dX10_row_18 ?_
    refine ei_lconst (v := 0) X dX10_row_19 rfl ?_
    refine ei_ldc2 X cw_RX10_267 dX10_row_20 ?_
    refine ei_callT1 X ml_RX10_84 dX10_row_23 (ct_X10_in _ _ _ _) rfl rfl (by decide) (by decide) (Nat.le_of_ble_eq_true rfl) ?_
    rw [in_0_2]
    refine ei_ifz_eq (tgt := 35) X dX10_row_26 (by decide) (fun cq26 => ?_) (fun cq26 => ?_)
    · refine ei_iconst (v := -1) X dX10_row_35 rfl ?_
      refine ei_ireturn X F dX10_row_36 ?_
      exact b0 (by simp [rowC, cq26])
    · have hs : s = 0 ∨ s = 1 ∨ s = 2 := by (obtain ⟨a, -, ha, rfl⟩ := (inI_iff (lo := 0) (hi := 2) (by decide) (by decide)).mp cq26; rcases (by omega : a = 0 ∨ a = 1 ∨ a = 2) with rfl | rfl | rfl; (· exact Or.inl rfl); (· exact Or.inr (Or.inl rfl)); exact Or.inr (Or.inr rfl))
      refine ei_iload_n X dX10_row_29 rfl rfl ?_
      refine ei_bipush (v := 100) X dX10_row_30 rfl ?_
      refine ei_icmp_le (tgt := 37) X dX10_row_32 (by decide) (fun cq32 => ?_) (fun cq32 => ?_)
      · have hc : rowC (nI k) s m = true := by simp [rowC, cq14, cq26, cq32]
        refine ei_iload_n X dX10_row_37 rfl rfl ?_
        refine ei_if_ge (tgt := 44) X dX10_row_38 (by decide) (fun cq38 => ?_) (fun cq38 => ?_)
        · obtain ⟨b, hb, rfl⟩ := nI_of (x := m) (Int32.not_lt.mpr cq38)
          have hb2 : b ≤ 100 := (nI_leI hb (by decide)).mp cq32
          have hnb : nc (nI b) = b := nc_nI hb
          refine ei_aload_n X dX10_row_44 rfl rfl ?_
          refine ei_getf X fl_RX10_26 dX10_row_45 rfl rfl ?_
          refine ei_iload_n X dX10_row_48 rfl rfl ?_
          refine ei_iconst (v := 2) X dX10_row_49 rfl ?_
          refine ei_iastore_n X dX10_row_50 rfl (by first | omega | assumption) (by decide) (pm_r4 _ _ _ _ _ _ _ _ _ _ _ _ _ _ _ _) ?_
          refine ei_aload_n X dX10_row_51 rfl rfl ?_
          refine ei_getf X fl_RX10_35 dX10_row_52 rfl rfl ?_
          refine ei_iload_n X dX10_row_55 rfl rfl ?_
          refine ei_iload_n X dX10_row_56 rfl rfl ?_
          refine ei_iastore_n X dX10_row_57 rfl (by first | omega | assumption) (by decide) (pm_r7 _ _ _ _ _ _ _ _ _ _ _ _ _ _ _ _) ?_
          refine ei_aload_n X dX10_row_58 rfl rfl ?_
          refine ei_getf X fl_RX10_38 dX10_row_59 rfl rfl ?_
          refine ei_iload_n X dX10_row_62 rfl rfl ?_
          refine ei_iload_n X dX10_row_63 rfl rfl ?_
          refine ei_iastore_n X dX10_row_64 rfl (by first | omega | assumption) (by decide) (pm_r8 _ _ _ _ _ _ _ _ _ _ _ _ _ _ _ _) ?_
          refine ei_iconst (v := 0) X dX10_row_65 rfl ?_
          refine ei_istore X dX10_row_66 (Nat.le_of_ble_eq_true rfl) rfl ?_
          have h9 := L k b (by omega) hb2 rfl rfl hs hc 101 0 (B 9) (by omega) (by omega) (fun j hj => absurd hj (Nat.not_lt_zero _)) (fun j _ => rfl)
          rw [updB_id] at h9
          exact h9
        · refine ei_bipush (v := -14) X dX10_row_41 rfl ?_
          refine ei_ireturn X F dX10_row_43 ?_
          exact ⟨by simp only [rowF, hc, if_true, if_pos (Int32.not_le.mp cq38)], _, kX_20 _ _ _ _ _ _ 0 rfl, by simp only [rowZ, hc, if_true, if_pos (Int32.not_le.mp cq38)]; exact RS_20 _ _ _ _ h_R 0, rfl⟩
      · refine ei_iconst (v := -1) X dX10_row_35 rfl ?_
        refine ei_ireturn X F dX10_row_36 ?_
        exact b0 (by simp only [rowC, decide_eq_false cq32, Bool.and_false])

