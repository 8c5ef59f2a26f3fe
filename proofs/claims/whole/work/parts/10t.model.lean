theorem nI_subN {a b : Nat} (h : b ≤ a) : nI a - nI b = nI (a - b) := by
  obtain ⟨c, rfl⟩ : ∃ c, a = c + b := ⟨a - b, by omega⟩
  rw [← nI_add, Nat.add_sub_cancel, Int32.add_sub_cancel]
set_option maxRecDepth 100000 in
set_option maxHeartbeats 4000000 in
theorem ct_X10_layStretch (n : Nat) (w se sp hr lt hd sc : Int32) (so fi wo : Nat → Int32) (I : Nat → Int32) (A : Nat → Nat → Int32) (B : Nat → Nat → Int64) (K : Value) (a b : Nat) (h_a : a ≤ b) (h_b : b < 10) (h_W : GdV wo 999) (h_t : ∀ p q, a ≤ p → p ≤ q → q ≤ b → q - p < b - a → A 15 (10 * p + q) = nI (wW p q) ∧ B 17 (10 * p + q) = lN (wM (odS wo) p q)) : e_Ct yX10_layStretch cX10_layStretch 14 none 2 [.ref 0, .int (nI a), .int (nI b)] (mH (n, w, se, sp, hr, lt, hd, sc, so, fi, wo) (I, A, B, K)) (e_eq none (mH (n, w, se, sp, hr, lt, hd, sc, so, fi, wo) (I, updA (updA A 15 (upd (A 15) (10 * a + b) (nI (wW a b)))) 16 (upd (A 16) (10 * a + b) (cutI a b)), updB B 17 (vp_updL (B 17) (10 * a + b) (lN (wM (odS wo) a b))), K))) := by
  refine e_open RX10 rfl (by decide +kernel) rfl (fun _ => Nat.le_of_ble_eq_true rfl) (fun x X F => ?_)
  have ho := odS_le h_W
  have ho1 := odN_le h_W (i := a) (e := b + 1) (by omega)
  have L : ∀ (c j : Nat) (best least v : Int32) (mean : Int64), b - j < c → a ≤ j → j ≤ b → LSt (odS wo) a b j best least v mean → e_E x 12 [some (.ref 0), some (.int (nI a)), some (.int (nI b)), some (.int best), some (.int least), some (.long mean), none, some (.int (nI j)), none, none, none, none, none, none] [] (mH (n, w, se, sp, hr, lt, hd, sc, so, fi, wo) (I, updA A 15 (upd (A 15) (10 * a + b) v), B, K)) := by
    intro c
    induction c with
    | zero => intro j best least v mean hc; exact absurd hc (Nat.not_lt_zero _)
    | succ c ih =>
      intro j best least v mean hc haj hjb hv
      have J197 : j < b → ∀ (l2 b2 : Int32) (m2 : Int64) (y8 y9 y10 y11 y12 : Option Value), LSt (odS wo) a b (j + 1) b2 l2 l2 m2 → e_E x 197 [some (.ref 0), some (.int (nI a)), some (.int (nI b)), some (.int best), some (.int l2), some (.long m2), none, some (.int (nI j)), y8, y9, y10, y11, y12, none] [.int b2] (mH (n, w, se, sp, hr, lt, hd, sc, so, fi, wo) (I, updA A 15 (upd (A 15) (10 * a + b) v), B, K)) := by
        intro hlt l2 b2 m2 y8 y9 y10 y11 y12 h2
        refine ei_istore_n X dX10_layStretch_197 rfl (Nat.le_of_ble_eq_true rfl) rfl ?_
        refine ei_aload_n X dX10_layStretch_198 rfl rfl ?_
        refine ei_getf X fl_RX10_60 dX10_layStretch_199 rfl rfl ?_
        refine ei_bipush (v := nI 10) X dX10_layStretch_202 rfl ?_
        refine ei_iload_n X dX10_layStretch_204 rfl rfl ?_
        refine ei_imul X dX10_layStretch_205 ?_
        rw [nI_mul]
        refine ei_iload_n X dX10_layStretch_206 rfl rfl ?_
        refine ei_iadd X dX10_layStretch_207 ?_
        rw [nI_add]
        refine ei_iload X dX10_layStretch_208 rfl ?_
        refine ei_iastore_n X dX10_layStretch_210 rfl (by first | omega | assumption) (by decide) (pm_r15 _ _ _ _ _ _ _ _ _ _ _ _ _ _ _ _) ?_
        rw [updA_2, updA_on, upd_2]
        refine ei_iinc_n X dX10_layStretch_211 rfl rfl ?_
        refine ei_goto (tgt := 12) X dX10_layStretch_214 (by decide) ?_
        refine ei_drop 8 ?_
        refine ei_drop 9 ?_
        refine ei_drop 10 ?_
        refine ei_drop 11 ?_
        refine ei_drop 12 ?_
        exact ih (j + 1) b2 l2 l2 m2 (by omega) (by omega) (by omega) h2
      have J162 : j < b → ∀ (l2 : Int32) (m2 : Int64) (y8 y9 y10 y12 : Option Value), l2 = lsL best least (nI (byW a b j)) → m2 = lsM j a mean (lN (byM (odS wo) a b j)) → e_E x 162 [some (.ref 0), some (.int (nI a)), some (.int (nI b)), some (.int best), some (.int least), some (.long m2), none, some (.int (nI j)), y8, y9, y10, some (.int (nI (byW a b j))), y12, none] [.int l2] (mH (n, w, se, sp, hr, lt, hd, sc, so, fi, wo) (I, updA A 15 (upd (A 15) (10 * a + b) v), B, K)) := by
        intro hlt l2 m2 y8 y9 y10 y12 h2 h3
        have hs := LSt_s ho hv haj hlt h_b
        rw [← h2, ← h3] at hs
        refine ei_istore X dX10_layStretch_162 (Nat.le_of_ble_eq_true rfl) rfl ?_
        refine ei_iload_n X dX10_layStretch_164 rfl rfl ?_
        refine ei_if_lt (tgt := 191) X dX10_layStretch_165 (by decide) (fun cq165 => ?_) (fun cq165 => ?_)
        · refine ei_iload X dX10_layStretch_191 rfl ?_
          refine ei_goto (tgt := 197) X dX10_layStretch_193 (by decide) ?_
          rw [show lsB best l2 (nI (byW a b j)) v (nI j) = nI j from if_pos (Or.inl cq165)] at hs
          exact J197 hlt _ _ _ _ _ _ _ _ hs
        · refine ei_iload X dX10_layStretch_168 rfl ?_
          refine ei_iload X dX10_layStretch_170 rfl ?_
          refine ei_icmp_ne (tgt := 196) X dX10_layStretch_172 (by decide) (fun cq172 => ?_) (fun cq172 => ?_)
          · refine ei_iload_n X dX10_layStretch_196 rfl rfl ?_
            rw [show lsB best l2 (nI (byW a b j)) v (nI j) = best from if_neg (fun z => z.elim cq165 (fun z => cq172 z.1))] at hs
            exact J197 hlt _ _ _ _ _ _ _ _ hs
          · refine ei_iload X dX10_layStretch_175 rfl ?_
            refine ei_aload_n X dX10_layStretch_177 rfl rfl ?_
            refine ei_getf X fl_RX10_60 dX10_layStretch_178 rfl rfl ?_
            refine ei_bipush (v := nI 10) X dX10_layStretch_181 rfl ?_
            refine ei_iload_n X dX10_layStretch_183 rfl rfl ?_
            refine ei_imul X dX10_layStretch_184 ?_
            rw [nI_mul]
            refine ei_iload_n X dX10_layStretch_185 rfl rfl ?_
            refine ei_iadd X dX10_layStretch_186 ?_
            rw [nI_add]
            refine ei_iaload_n X dX10_layStretch_187 rfl (by first | omega | assumption) (by decide) ?_
            rw [updA_on, pk_us]
            refine ei_icmp_ge (tgt := 196) X dX10_layStretch_188 (by decide) (fun cq188 => ?_) (fun cq188 => ?_)
            · refine ei_iload_n X dX10_layStretch_196 rfl rfl ?_
              rw [show lsB best l2 (nI (byW a b j)) v (nI j) = best from if_neg (fun z => z.elim cq165 (fun z => Int32.not_lt.mpr cq188 z.2))] at hs
              exact J197 hlt _ _ _ _ _ _ _ _ hs
            · refine ei_iload X dX10_layStretch_191 rfl ?_
              refine ei_goto (tgt := 197) X dX10_layStretch_193 (by decide) ?_
              rw [show lsB best l2 (nI (byW a b j)) v (nI j) = nI j from if_pos (Or.inr ⟨cq172, Int32.not_le.mp cq188⟩)] at hs
              exact J197 hlt _ _ _ _ _ _ _ _ hs
      have J142 : j < b → ∀ (m2 : Int64) (y8 y9 y10 y12 : Option Value), m2 = lsM j a mean (lN (byM (odS wo) a b j)) → e_E x 142 [some (.ref 0), some (.int (nI a)), some (.int (nI b)), some (.int best), some (.int least), some (.long mean), none, some (.int (nI j)), y8, y9, y10, some (.int (nI (byW a b j))), y12, none] [.long m2] (mH (n, w, se, sp, hr, lt, hd, sc, so, fi, wo) (I, updA A 15 (upd (A 15) (10 * a + b) v), B, K)) := by
        intro hlt m2 y8 y9 y10 y12 h3
        refine ei_lstore X dX10_layStretch_142 (Nat.le_of_ble_eq_true rfl) rfl ?_
        refine ei_iload_n X dX10_layStretch_144 rfl rfl ?_
        refine ei_if_lt (tgt := 155) X dX10_layStretch_145 (by decide) (fun cq145 => ?_) (fun cq145 => ?_)
        · refine ei_iload X dX10_layStretch_155 rfl ?_
          refine ei_goto (tgt := 162) X dX10_layStretch_157 (by decide) ?_
          exact J162 hlt _ _ _ _ _ _ (if_pos (Or.inl cq145)).symm h3
        · refine ei_iload X dX10_layStretch_148 rfl ?_
          refine ei_iload X dX10_layStretch_150 rfl ?_
          refine ei_icmp_ge (tgt := 160) X dX10_layStretch_152 (by decide) (fun cq152 => ?_) (fun cq152 => ?_)
          · refine ei_iload X dX10_layStretch_160 rfl ?_
            exact J162 hlt _ _ _ _ _ _ (if_neg (fun z => z.elim cq145 (Int32.not_lt.mpr cq152))).symm h3
          · refine ei_iload X dX10_layStretch_155 rfl ?_
            refine ei_goto (tgt := 162) X dX10_layStretch_157 (by decide) ?_
            exact J162 hlt _ _ _ _ _ _ (if_pos (Or.inr (Int32.not_le.mp cq152))).symm h3
      have J76 : j < b → ∀ (u : Nat) (y8 y9 : Option Value), u = max (wW a j) (wW (j + 1) b) → e_E x 76 [some (.ref 0), some (.int (nI a)), some (.int (nI b)), some (.int best), some (.int least), some (.long mean), none, some (.int (nI j)), y8, y9, some (.int (nI (6 + 2 * (j - a)))), none, none, none] [.int (nI u), .int (nI (6 + 2 * (j - a)))] (mH (n, w, se, sp, hr, lt, hd, sc, so, fi, wo) (I, updA A 15 (upd (A 15) (10 * a + b) v), B, K)) := by
        intro hlt u y8 y9 hu
        subst hu
        have t1 := h_t a j (by omega) haj (by omega) (by omega)
        have t2 := h_t (j + 1) b (by omega) (by omega) (by omega) (by omega)
        refine ei_iadd X dX10_layStretch_76 ?_
        rw [nI_add]
        refine ei_istore X dX10_layStretch_77 (Nat.le_of_ble_eq_true rfl) rfl ?_
        refine ei_iload X dX10_layStretch_79 rfl ?_
        refine ei_i2l X dX10_layStretch_81 ?_
        rw [nI_l (show 6 + 2 * (j - a) < 2 ^ 31 by omega)]
        refine ei_aload_n X dX10_layStretch_82 rfl rfl ?_
        refine ei_iload_n X dX10_layStretch_83 rfl rfl ?_
        refine ei_iload_n X dX10_layStretch_84 rfl rfl ?_
        refine ei_callI1 X ml_RX10_289 dX10_layStretch_85 (ct_X10_oddsOf _ _ _ _ _ _ _ _ _ _ _ _ _ _ _ _ _ (by first | omega | assumption) (by first | omega | assumption)) rfl rfl (by decide) (by decide) rfl (Nat.le_of_ble_eq_true rfl) ?_
        rw [odds_nI h_W (by omega) (by omega)]
        refine ei_i2l X dX10_layStretch_88 ?_
        rw [nI_l (show odN wo a (b + 1) < 2 ^ 31 by omega)]
        refine ei_lmul X dX10_layStretch_89 ?_
        rw [lN_mul]
        refine ei_aload_n X dX10_layStretch_90 rfl rfl ?_
        refine ei_getf X fl_RX10_66 dX10_layStretch_91 rfl rfl ?_
        refine ei_bipush (v := nI 10) X dX10_layStretch_94 rfl ?_
        refine ei_iload_n X dX10_layStretch_96 rfl rfl ?_
        refine ei_imul X dX10_layStretch_97 ?_
        rw [nI_mul]
        refine ei_iload X dX10_layStretch_98 rfl ?_
        refine ei_iadd X dX10_layStretch_100 ?_
        rw [nI_add]
        refine ei_laload_n X dX10_layStretch_101 rfl (by first | omega | assumption) (by decide) ?_
        rw [t1.2]
        refine ei_ladd X dX10_layStretch_102 ?_
        rw [lN_add]
        refine ei_aload_n X dX10_layStretch_103 rfl rfl ?_
        refine ei_getf X fl_RX10_66 dX10_layStretch_104 rfl rfl ?_
        refine ei_bipush (v := nI 10) X dX10_layStretch_107 rfl ?_
        refine ei_iload X dX10_layStretch_109 rfl ?_
        refine ei_imul X dX10_layStretch_111 ?_
        rw [nI_mul]
        refine ei_bipush (v := nI 10) X dX10_layStretch_112 rfl ?_
        refine ei_iadd X dX10_layStretch_114 ?_
        rw [nI_add]
        refine ei_iload_n X dX10_layStretch_115 rfl rfl ?_
        refine ei_iadd X dX10_layStretch_116 ?_
        rw [nI_add]
        refine ei_laload_n X dX10_layStretch_117 rfl (by first | omega | assumption) (by decide) ?_
        rw [show 10 * j + 10 + b = 10 * (j + 1) + b by omega, t2.2]
        refine ei_ladd X dX10_layStretch_118 ?_
        rw [lN_add, show (6 + 2 * (j - a)) * odN wo a (b + 1) + wM (odS wo) a j + wM (odS wo) (j + 1) b = byM (odS wo) a b j from Nat.add_assoc _ _ _]
        refine ei_lstore X dX10_layStretch_119 (Nat.le_of_ble_eq_true rfl) rfl ?_
        refine ei_iload X dX10_layStretch_121 rfl ?_
        refine ei_iload_n X dX10_layStretch_123 rfl rfl ?_
        refine ei_icmpn_eq (tgt := 135) X dX10_layStretch_124 (by decide) (by first | omega | assumption) (by first | omega | assumption) (fun cq124 => ?_) (fun cq124 => ?_)
        · refine ei_lload X dX10_layStretch_135 rfl ?_
          refine ei_goto (tgt := 142) X dX10_layStretch_137 (by decide) ?_
          exact J142 hlt _ _ _ _ _ (if_pos (Or.inl cq124)).symm
        · refine ei_lload X dX10_layStretch_127 rfl ?_
          refine ei_lload X dX10_layStretch_129 rfl ?_
          refine ei_lcmp X dX10_layStretch_131 ?_
          refine ei_ifc_ge (tgt := 140) X dX10_layStretch_132 (by decide) (fun cq132 => ?_) (fun cq132 => ?_)
          · refine ei_lload X dX10_layStretch_140 rfl ?_
            exact J142 hlt _ _ _ _ _ (if_neg (fun z => z.elim cq124 (Int64.not_lt.mpr cq132))).symm
          · refine ei_lload X dX10_layStretch_135 rfl ?_
            refine ei_goto (tgt := 142) X dX10_layStretch_137 (by decide) ?_
            exact J142 hlt _ _ _ _ _ (if_pos (Or.inr (Int64.not_le.mp cq132))).symm
      refine ei_iload X dX10_layStretch_12 rfl ?_
      refine ei_iload_n X dX10_layStretch_14 rfl rfl ?_
      refine ei_icmpn_ge (tgt := 217) X dX10_layStretch_15 (by decide) (by first | omega | assumption) (by first | omega | assumption) (fun cq15 => ?_) (fun cq15 => ?_)
      · obtain rfl : j = b := (by omega)
        obtain ⟨e1, e2, e3⟩ := LSt_e hv h_b
        refine ei_aload_n X dX10_layStretch_217 rfl rfl ?_
        refine ei_getf X fl_RX10_60 dX10_layStretch_218 rfl rfl ?_
        refine ei_bipush (v := nI 10) X dX10_layStretch_221 rfl ?_
        refine ei_iload_n X dX10_layStretch_223 rfl rfl ?_
        refine ei_imul X dX10_layStretch_224 ?_
        rw [nI_mul]
        refine ei_iload_n X dX10_layStretch_225 rfl rfl ?_
        refine ei_iadd X dX10_layStretch_226 ?_
        rw [nI_add]
        refine ei_iload X dX10_layStretch_227 rfl ?_
        refine ei_iastore_n X dX10_layStretch_229 rfl (by first | omega | assumption) (by decide) (pm_r15 _ _ _ _ _ _ _ _ _ _ _ _ _ _ _ _) ?_
        rw [updA_2, updA_on, upd_2]
        refine ei_aload_n X dX10_layStretch_230 rfl rfl ?_
        refine ei_getf X fl_RX10_63 dX10_layStretch_231 rfl rfl ?_
        refine ei_bipush (v := nI 10) X dX10_layStretch_234 rfl ?_
        refine ei_iload_n X dX10_layStretch_236 rfl rfl ?_
        refine ei_imul X dX10_layStretch_237 ?_
        rw [nI_mul]
        refine ei_iload_n X dX10_layStretch_238 rfl rfl ?_
        refine ei_iadd X dX10_layStretch_239 ?_
        rw [nI_add]
        refine ei_iload_n X dX10_layStretch_240 rfl rfl ?_
        refine ei_iastore_n X dX10_layStretch_241 rfl (by first | omega | assumption) (by decide) (pm_r16 _ _ _ _ _ _ _ _ _ _ _ _ _ _ _ _) ?_
        refine ei_aload_n X dX10_layStretch_242 rfl rfl ?_
        refine ei_getf X fl_RX10_66 dX10_layStretch_243 rfl rfl ?_
        refine ei_bipush (v := nI 10) X dX10_layStretch_246 rfl ?_
        refine ei_iload_n X dX10_layStretch_248 rfl rfl ?_
        refine ei_imul X dX10_layStretch_249 ?_
        rw [nI_mul]
        refine ei_iload_n X dX10_layStretch_250 rfl rfl ?_
        refine ei_iadd X dX10_layStretch_251 ?_
        rw [nI_add]
        refine ei_lload X dX10_layStretch_252 rfl ?_
        refine ei_lastore_n X dX10_layStretch_254 rfl (by first | omega | assumption) (by decide) (pm_r17 _ _ _ _ _ _ _ _ _ _ _ _ _ _ _ _) ?_
        refine ei_vreturn X F dX10_layStretch_255 ?_
        exact ⟨rfl, by rw [e1, e2, e3, updA_off (show (16 : Nat) ≠ 15 by decide)]⟩
      · have t1 := h_t a j (by omega) haj (by omega) (by omega)
        have t2 := h_t (j + 1) b (by omega) (by omega) (by omega) (by omega)
        have w1 := wW_le (a := a) (b := j) (by omega)
        have w2 := wW_le (a := j + 1) (b := b) h_b
        refine ei_aload_n X dX10_layStretch_18 rfl rfl ?_
        refine ei_getf X fl_RX10_60 dX10_layStretch_19 rfl rfl ?_
        refine ei_bipush (v := nI 10) X dX10_layStretch_22 rfl ?_
        refine ei_iload_n X dX10_layStretch_24 rfl rfl ?_
        refine ei_imul X dX10_layStretch_25 ?_
        rw [nI_mul]
        refine ei_iload X dX10_layStretch_26 rfl ?_
        refine ei_iadd X dX10_layStretch_28 ?_
        rw [nI_add]
        refine ei_iaload_n X dX10_layStretch_29 rfl (by first | omega | assumption) (by decide) ?_
        rw [updA_on, pk_un (by omega), t1.1]
        refine ei_istore X dX10_layStretch_30 (Nat.le_of_ble_eq_true rfl) rfl ?_
        refine ei_aload_n X dX10_layStretch_32 rfl rfl ?_
        refine ei_getf X fl_RX10_60 dX10_layStretch_33 rfl rfl ?_
        refine ei_bipush (v := nI 10) X dX10_layStretch_36 rfl ?_
        refine ei_iload X dX10_layStretch_38 rfl ?_
        refine ei_imul X dX10_layStretch_40 ?_
        rw [nI_mul]
        refine ei_bipush (v := nI 10) X dX10_layStretch_41 rfl ?_
        refine ei_iadd X dX10_layStretch_43 ?_
        rw [nI_add]
        refine ei_iload_n X dX10_layStretch_44 rfl rfl ?_
        refine ei_iadd X dX10_layStretch_45 ?_
        rw [nI_add]
        refine ei_iaload_n X dX10_layStretch_46 rfl (by first | omega | assumption) (by decide) ?_
        rw [updA_on, pk_un (by omega), show 10 * j + 10 + b = 10 * (j + 1) + b by omega, t2.1]
        refine ei_istore X dX10_layStretch_47 (Nat.le_of_ble_eq_true rfl) rfl ?_
        refine ei_bipush (v := nI 6) X dX10_layStretch_49 rfl ?_
        refine ei_iconst (v := nI 2) X dX10_layStretch_51 rfl ?_
        refine ei_iload X dX10_layStretch_52 rfl ?_
        refine ei_iload_n X dX10_layStretch_54 rfl rfl ?_
        refine ei_isub X dX10_layStretch_55 ?_
        rw [nI_subN haj]
        refine ei_imul X dX10_layStretch_56 ?_
        rw [nI_mul]
        refine ei_iadd X dX10_layStretch_57 ?_
        rw [nI_add]
        refine ei_istore X dX10_layStretch_58 (Nat.le_of_ble_eq_true rfl) rfl ?_
        refine ei_iload X dX10_layStretch_60 rfl ?_
        refine ei_iload X dX10_layStretch_62 rfl ?_
        refine ei_iload X dX10_layStretch_64 rfl ?_
        refine ei_icmpn_le (tgt := 74) X dX10_layStretch_66 (by decide) (by first | omega | assumption) (by first | omega | assumption) (fun cq66 => ?_) (fun cq66 => ?_)
        · refine ei_iload X dX10_layStretch_74 rfl ?_
          exact J76 (by omega) _ _ _ (Nat.max_eq_right cq66).symm
        · refine ei_iload X dX10_layStretch_69 rfl ?_
          refine ei_goto (tgt := 76) X dX10_layStretch_71 (by decide) ?_
          exact J76 (by omega) _ _ _ (Nat.max_eq_left (by omega)).symm
  refine ei_bipush (v := -4) X dX10_layStretch_0 rfl ?_
  refine ei_istore_n X dX10_layStretch_2 rfl (Nat.le_of_ble_eq_true rfl) rfl ?_
  refine ei_iconst (v := 0) X dX10_layStretch_3 rfl ?_
  refine ei_istore X dX10_layStretch_4 (Nat.le_of_ble_eq_true rfl) rfl ?_
  refine ei_lconst (v := 0) X dX10_layStretch_6 rfl ?_
  refine ei_lstore X dX10_layStretch_7 (Nat.le_of_ble_eq_true rfl) rfl ?_
  refine ei_iload_n X dX10_layStretch_9 rfl rfl ?_
  refine ei_istore X dX10_layStretch_10 (Nat.le_of_ble_eq_true rfl) rfl ?_
  have h0 := L (b - a + 1) a (-4) 0 (A 15 (10 * a + b)) 0 (by omega) (Nat.le_refl _) h_a (Or.inl ⟨rfl, rfl, rfl, rfl⟩)
  rw [upd_id, updA_id] at h0
  exact h0
def TBP (od : Nat → Nat → Nat) (n : Nat) (T : Nat → Nat → Prop) (A : Nat → Nat → Int32) (B : Nat → Nat → Int64) : Prop := ∀ p q, p ≤ q → q < n → T p q → A 15 (10 * p + q) = nI (wW p q) ∧ A 16 (10 * p + q) = cutI p q ∧ B 17 (10 * p + q) = lN (wM od p q)
theorem TB_s {od : Nat → Nat → Nat} {n F a : Nat} {A : Nat → Nat → Int32} {B : Nat → Nat → Int64} (h : TBP od n (fun p q => q - p < F ∨ q - p = F ∧ p < a) A B) (ha : a + F < n) (hn : n ≤ 10) :
    TBP od n (fun p q => q - p < F ∨ q - p = F ∧ p < a + 1) (updA (updA A 15 (upd (A 15) (10 * a + (a + F)) (nI (wW a (a + F))))) 16 (upd (A 16) (10 * a + (a + F)) (cutI a (a + F)))) (updB B 17 (vp_updL (B 17) (10 * a + (a + F)) (lN (wM od a (a + F))))) := by
  intro p q h1 h2 h3
  rw [updA_off (show (15 : Nat) ≠ 16 by decide), updA_on, updA_on, updB_on]
  by_cases e : p = a ∧ q = a + F
  · obtain ⟨rfl, rfl⟩ := e
    rw [pk_us, pk_us]
    refine ⟨rfl, rfl, ?_⟩
    unfold vp_updL
    rw [if_pos rfl]
  · have hne : 10 * p + q ≠ 10 * a + (a + F) := by omega
    rw [pk_un hne, pk_un hne]
    have h4 := h p q h1 h2 (by omega)
    refine ⟨h4.1, h4.2.1, ?_⟩
    unfold vp_updL
    rw [if_neg hne]
    exact h4.2.2
theorem kM_tb {M : MX} {I : Nat → Int32} {A : Nat → Nat → Int32} {B : Nat → Nat → Int64} {K : Value} {f g : Nat → Int32} {h : Nat → Int64} (k : kM M (I, A, B, K)) : kM M (I, updA (updA A 15 f) 16 g, updB B 17 h, K) :=
  ⟨k.1, fun c hc => by show updA (updA A 15 f) 16 g c = _; rw [updA_off (by omega), updA_off (by omega)]; exact k.2.1 c hc, by show updB B 17 h 9 = _; rw [show updB B 17 h 9 = B 9 from by simp [updB]]; exact k.2.2⟩
set_option maxRecDepth 100000 in
set_option maxHeartbeats 4000000 in
theorem ct_X10_layHalves (n : Nat) (w se sp hr lt hd sc : Int32) (so fi wo : Nat → Int32) (I : Nat → Int32) (A : Nat → Nat → Int32) (B : Nat → Nat → Int64) (K : Value) (h_S : Good (n, w, se, sp, hr, lt, hd, sc, so, fi, wo)) : e_Ct yX10_layHalves cX10_layHalves 3 none 3 [.ref 0] (mH (n, w, se, sp, hr, lt, hd, sc, so, fi, wo) (I, A, B, K)) (fun r h => r = none ∧ ∃ A2 B2, kM (I, A, B, K) (I, A2, B2, K) ∧ TBP (odS wo) n (fun _ _ => True) A2 B2 ∧ h = mH (n, w, se, sp, hr, lt, hd, sc, so, fi, wo) (I, A2, B2, K)) := by
  refine e_open RX10 rfl (by decide +kernel) rfl (fun _ => Nat.le_of_ble_eq_true rfl) (fun x X F => ?_)
  have hn : n ≤ 10 := h_S.1
  have L : ∀ (c ff : Nat) (A2 : Nat → Nat → Int32) (B2 : Nat → Nat → Int64), n - ff < c → ff ≤ 10 → kM (I, A, B, K) (I, A2, B2, K) → TBP (odS wo) n (fun p q => q - p < ff) A2 B2 → e_E x 2 [some (.ref 0), some (.int (nI ff)), none] [] (mH (n, w, se, sp, hr, lt, hd, sc, so, fi, wo) (I, A2, B2, K)) := by
    intro c
    induction c with
    | zero => intro ff A2 B2 hc; exact absurd hc (Nat.not_lt_zero _)
    | succ c ih =>
      intro ff A2 B2 hc hF hk ht
      have LI : ff < n → ∀ (cq2 a : Nat) (A2 : Nat → Nat → Int32) (B2 : Nat → Nat → Int64), n - a < cq2 → a ≤ 10 → kM (I, A, B, K) (I, A2, B2, K) → TBP (odS wo) n (fun p q => q - p < ff ∨ q - p = ff ∧ p < a) A2 B2 → e_E x 12 [some (.ref 0), some (.int (nI ff)), some (.int (nI a))] [] (mH (n, w, se, sp, hr, lt, hd, sc, so, fi, wo) (I, A2, B2, K)) := by
        intro hlt cq2
        induction cq2 with
        | zero => intro a A2 B2 hc2; exact absurd hc2 (Nat.not_lt_zero _)
        | succ cq2 ih2 =>
          intro a A2 B2 hc2 ha hk ht
          refine ei_iload_n X dX10_layHalves_12 rfl rfl ?_
          refine ei_iload_n X dX10_layHalves_13 rfl rfl ?_
          refine ei_iadd X dX10_layHalves_14 ?_
          rw [nI_add]
          refine ei_aload_n X dX10_layHalves_15 rfl rfl ?_
          refine ei_getf X fl_RX10_81 dX10_layHalves_16 rfl rfl ?_
          refine ei_icmpn_ge (tgt := 36) X dX10_layHalves_19 (by decide) (by first | omega | assumption) (by first | omega | assumption) (fun cq19 => ?_) (fun cq19 => ?_)
          · refine ei_iinc_n X dX10_layHalves_36 rfl rfl ?_
            refine ei_goto (tgt := 2) X dX10_layHalves_39 (by decide) ?_
            refine ei_drop 2 ?_
            exact ih (ff + 1) _ _ (by omega) (by omega) hk (fun p q h1 h2 h3 => ht p q h1 h2 (by omega))
          · refine ei_aload_n X dX10_layHalves_22 rfl rfl ?_
            refine ei_iload_n X dX10_layHalves_23 rfl rfl ?_
            refine ei_iload_n X dX10_layHalves_24 rfl rfl ?_
            refine ei_iload_n X dX10_layHalves_25 rfl rfl ?_
            refine ei_iadd X dX10_layHalves_26 ?_
            rw [nI_add]
            refine ei_callI0 X ml_RX10_292 dX10_layHalves_27 (ct_X10_layStretch _ _ _ _ _ _ _ _ _ _ _ _ _ _ _ a (a + ff) (by omega) (by omega) h_S.2.2.2.1 (fun p q h1 h2 h3 h4 => by have h5 := ht p q h2 (by omega) (by omega); exact ⟨h5.1, h5.2.2⟩)) rfl rfl (by decide) (by decide) rfl (Nat.le_of_ble_eq_true rfl) ?_
            refine ei_iinc_n X dX10_layHalves_30 rfl rfl ?_
            refine ei_goto (tgt := 12) X dX10_layHalves_33 (by decide) ?_
            exact ih2 (a + 1) _ _ (by omega) (by omega) (kM_tb hk) (TB_s ht (by omega) hn)
      refine ei_iload_n X dX10_layHalves_2 rfl rfl ?_
      refine ei_aload_n X dX10_layHalves_3 rfl rfl ?_
      refine ei_getf X fl_RX10_81 dX10_layHalves_4 rfl rfl ?_
      refine ei_icmpn_ge (tgt := 42) X dX10_layHalves_7 (by decide) (by first | omega | assumption) (by first | omega | assumption) (fun cq7 => ?_) (fun cq7 => ?_)
      · refine ei_vreturn X F dX10_layHalves_42 ?_
        exact ⟨rfl, A2, B2, hk, fun p q h1 h2 _ => ht p q h1 h2 (by omega), rfl⟩
      · refine ei_iconst (v := nI 0) X dX10_layHalves_10 rfl ?_
        refine ei_istore_n X dX10_layHalves_11 rfl (Nat.le_of_ble_eq_true rfl) rfl ?_
        exact LI (by omega) (n + 1) 0 _ _ (by omega) (by omega) hk (fun p q h1 h2 h3 => ht p q h1 h2 (by omega))
  refine ei_iconst (v := nI 0) X dX10_layHalves_0 rfl ?_
  refine ei_istore_n X dX10_layHalves_1 rfl (Nat.le_of_ble_eq_true rfl) rfl ?_
  exact L (n + 1) 0 A B (by omega) (by omega) (kM_rf _) (fun p q h1 h2 h3 => absurd h3 (by omega))
theorem str_ex {n : Nat} (hn : n ≤ 10) {a b : Int32} (h : strF n a b = true) : ∃ i j, i ≤ j ∧ j < n ∧ a = nI i ∧ b = nI j := by
  unfold strF at h
  obtain ⟨h1, h2⟩ := (Bool.and_eq_true _ _).mp h
  obtain ⟨h3, h4⟩ := (Bool.and_eq_true _ _).mp h2
  obtain ⟨i, hi, rfl⟩ := (hasF_iff (by omega)).mp h1
  obtain ⟨j, hj, rfl⟩ := (hasF_iff (by omega)).mp h3
  exact ⟨i, j, (nn_le (by omega) (by omega)).mp (of_decide_eq_true h4), hj, rfl, rfl⟩
def halvesF (S : St) (a b what : Int32) : Int32 := if strF (sN S) a b = true ∧ inI what 0 1 = true then (if what = 0 then nI (wW (nc a) (nc b)) else cutI (nc a) (nc b)) else -1
def meanF (S : St) (a b part : Int32) : Int64 := if strF (sN S) a b = true ∧ inI part 0 1 = true then partF (wM (odS (sR S)) (nc a) (nc b)) (odN (sR S) (nc a) (nc b + 1)) part else 1000000001
set_option maxRecDepth 100000 in
set_option maxHeartbeats 4000000 in
theorem ct_X10_halves (n : Nat) (w se sp hr lt hd sc : Int32) (so fi wo : Nat → Int32) (I : Nat → Int32) (A : Nat → Nat → Int32) (B : Nat → Nat → Int64) (K : Value) (a b what : Int32) (h_S : Good (n, w, se, sp, hr, lt, hd, sc, so, fi, wo)) : e_Ct yX10_halves cX10_halves 4 (some .int) 4 [.ref 0, .int a, .int b, .int what] (mH (n, w, se, sp, hr, lt, hd, sc, so, fi, wo) (I, A, B, K)) (mP (some (.int (halvesF (n, w, se, sp, hr, lt, hd, sc, so, fi, wo) a b what))) (n, w, se, sp, hr, lt, hd, sc, so, fi, wo) (I, A, B, K)) := by
  refine e_open RX10 rfl (by decide +kernel) rfl (fun _ => Nat.le_of_ble_eq_true rfl) (fun x X F => ?_)
  have hn : n ≤ 10 := h_S.1
  refine ei_aload_n X dX10_halves_0 rfl rfl ?_
  refine ei_iconst (v := 0) X dX10_halves_1 rfl ?_
  refine ei_puti X fp_RX10_78 dX10_halves_2 rfl (Nat.le_of_ble_eq_true rfl) (pm_20 _ _ _ _ _ _ _ _ _ _ _ _ _ _ _ _) ?_
  refine ei_aload_n X dX10_halves_5 rfl rfl ?_
  refine ei_iload_n X dX10_halves_6 rfl rfl ?_
  refine ei_iload_n X dX10_halves_7 rfl rfl ?_
  refine ei_callI1 X ml_RX10_295 dX10_halves_8 (ct_X10_isStretch _ _ _ _ _ _ _ _ _ _ _ _ _ _ _ _ _ (by first | omega | assumption)) rfl rfl (by decide) (by decide) rfl (Nat.le_of_ble_eq_true rfl) ?_
  refine ei_ifz_eq (tgt := 24) X dX10_halves_11 (by decide) (fun cq11 => ?_) (fun cq11 => ?_)
  · refine ei_iconst (v := -1) X dX10_halves_24 rfl ?_
    refine ei_ireturn X F dX10_halves_25 ?_
    exact ⟨by unfold halvesF; rw [if_neg (by rw [cq11]; exact fun z => Bool.false_ne_true z.1)], _, kM_20 _ _ _ _ 0, rfl⟩
  · refine ei_iload_n X dX10_halves_14 rfl rfl ?_
    refine ei_i2l X dX10_halves_15 ?_
    refine ei_lconst (v := 0) X dX10_halves_16 rfl ?_
    refine ei_lconst (v := 1) X dX10_halves_17 rfl ?_
    refine ei_callT1 X ml_RX10_84 dX10_halves_18 (ct_X10_in _ _ _ _) rfl rfl (by decide) (by decide) (Nat.le_of_ble_eq_true rfl) ?_
    rw [in_0_1]
    refine ei_ifz_ne (tgt := 26) X dX10_halves_21 (by decide) (fun cq21 => ?_) (fun cq21 => ?_)
    · obtain ⟨i, j, hij, hjn, rfl, rfl⟩ := str_ex hn cq11
      refine ei_aload_n X dX10_halves_26 rfl rfl ?_
      refine ei_callI X ml_RX10_298 dX10_halves_27 (ct_X10_layHalves _ _ _ _ _ _ _ _ _ _ _ _ _ _ _ (by first | omega | assumption)) rfl rfl (by decide) (by decide) rfl (Nat.le_of_ble_eq_true rfl) (fun r h2 hp => ?_)
      obtain ⟨rfl, A9, B9, k9, t9, rfl⟩ := hp
      have t8 := t9 i j hij hjn trivial
      refine ei_iload_n X dX10_halves_30 rfl rfl ?_
      refine ei_if_ne (tgt := 48) X dX10_halves_31 (by decide) (fun cq31 => ?_) (fun cq31 => ?_)
      · refine ei_aload_n X dX10_halves_48 rfl rfl ?_
        refine ei_getf X fl_RX10_63 dX10_halves_49 rfl rfl ?_
        refine ei_bipush (v := nI 10) X dX10_halves_52 rfl ?_
        refine ei_iload_n X dX10_halves_54 rfl rfl ?_
        refine ei_imul X dX10_halves_55 ?_
        rw [nI_mul]
        refine ei_iload_n X dX10_halves_56 rfl rfl ?_
        refine ei_iadd X dX10_halves_57 ?_
        rw [nI_add]
        refine ei_iaload_n X dX10_halves_58 rfl (by first | omega | assumption) (by decide) ?_
        skip
        refine ei_ireturn X F dX10_halves_59 ?_
        exact ⟨by unfold halvesF; rw [if_pos ⟨cq11, cq21⟩, if_neg cq31, nc_nI (by omega), nc_nI (by omega), t8.2.1], _, kM_tr (kM_20 _ _ _ _ 0) k9, rfl⟩
      · refine ei_aload_n X dX10_halves_34 rfl rfl ?_
        refine ei_getf X fl_RX10_60 dX10_halves_35 rfl rfl ?_
        refine ei_bipush (v := nI 10) X dX10_halves_38 rfl ?_
        refine ei_iload_n X dX10_halves_40 rfl rfl ?_
        refine ei_imul X dX10_halves_41 ?_
        rw [nI_mul]
        refine ei_iload_n X dX10_halves_42 rfl rfl ?_
        refine ei_iadd X dX10_halves_43 ?_
        rw [nI_add]
        refine ei_iaload_n X dX10_halves_44 rfl (by first | omega | assumption) (by decide) ?_
        rw [t8.1]
        refine ei_goto (tgt := 59) X dX10_halves_45 (by decide) ?_
        skip
        refine ei_ireturn X F dX10_halves_59 ?_
        exact ⟨by unfold halvesF; rw [if_pos ⟨cq11, cq21⟩, if_pos cq31, nc_nI (by omega), nc_nI (by omega)], _, kM_tr (kM_20 _ _ _ _ 0) k9, rfl⟩
    · refine ei_iconst (v := -1) X dX10_halves_24 rfl ?_
      refine ei_ireturn X F dX10_halves_25 ?_
      exact ⟨by unfold halvesF; rw [if_neg (by rw [cq21]; exact fun z => Bool.false_ne_true z.2)], _, kM_20 _ _ _ _ 0, rfl⟩
set_option maxRecDepth 100000 in
set_option maxHeartbeats 4000000 in
theorem ct_X10_mean (n : Nat) (w se sp hr lt hd sc : Int32) (so fi wo : Nat → Int32) (I : Nat → Int32) (A : Nat → Nat → Int32) (B : Nat → Nat → Int64) (K : Value) (a b part : Int32) (h_S : Good (n, w, se, sp, hr, lt, hd, sc, so, fi, wo)) : e_Ct yX10_mean cX10_mean 4 (some .long) 4 [.ref 0, .int a, .int b, .int part] (mH (n, w, se, sp, hr, lt, hd, sc, so, fi, wo) (I, A, B, K)) (mP (some (.long (meanF (n, w, se, sp, hr, lt, hd, sc, so, fi, wo) a b part))) (n, w, se, sp, hr, lt, hd, sc, so, fi, wo) (I, A, B, K)) := by
  refine e_open RX10 rfl (by decide +kernel) rfl (fun _ => Nat.le_of_ble_eq_true rfl) (fun x X F => ?_)
  have hn : n ≤ 10 := h_S.1
  refine ei_aload_n X dX10_mean_0 rfl rfl ?_
  refine ei_iconst (v := 0) X dX10_mean_1 rfl ?_
  refine ei_puti X fp_RX10_78 dX10_mean_2 rfl (Nat.le_of_ble_eq_true rfl) (pm_20 _ _ _ _ _ _ _ _ _ _ _ _ _ _ _ _) ?_
  refine ei_aload_n X dX10_mean_5 rfl rfl ?_
  refine ei_iload_n X dX10_mean_6 rfl rfl ?_
  refine ei_iload_n X dX10_mean_7 rfl rfl ?_
  refine ei_callI1 X ml_RX10_295 dX10_mean_8 (ct_X10_isStretch _ _ _ _ _ _ _ _ _ _ _ _ _ _ _ _ _ (by first | omega | assumption)) rfl rfl (by decide) (by decide) rfl (Nat.le_of_ble_eq_true rfl) ?_
  refine ei_ifz_eq (tgt := 24) X dX10_mean_11 (by decide) (fun cq11 => ?_) (fun cq11 => ?_)
  · refine ei_ldc2 X cw_RX10_305 dX10_mean_24 ?_
    refine ei_lreturn X F dX10_mean_27 ?_
    exact ⟨by unfold meanF; rw [if_neg (by rw [cq11]; exact fun z => Bool.false_ne_true z.1)], _, kM_20 _ _ _ _ 0, rfl⟩
  · refine ei_iload_n X dX10_mean_14 rfl rfl ?_
    refine ei_i2l X dX10_mean_15 ?_
    refine ei_lconst (v := 0) X dX10_mean_16 rfl ?_
    refine ei_lconst (v := 1) X dX10_mean_17 rfl ?_
    refine ei_callT1 X ml_RX10_84 dX10_mean_18 (ct_X10_in _ _ _ _) rfl rfl (by decide) (by decide) (Nat.le_of_ble_eq_true rfl) ?_
    rw [in_0_1]
    refine ei_ifz_ne (tgt := 28) X dX10_mean_21 (by decide) (fun cq21 => ?_) (fun cq21 => ?_)
    · obtain ⟨i, j, hij, hjn, rfl, rfl⟩ := str_ex hn cq11
      have ho1 := odN_le h_S.2.2.2.1 (i := i) (e := j + 1) (by omega)
      have hm1 := wM_le (odS_le h_S.2.2.2.1) (a := i) (b := j) (by omega)
      simp only [sN, sW, sE, sP, sH, sL, sD, sC, sO, sG, sR] at ho1 hm1
      refine ei_aload_n X dX10_mean_28 rfl rfl ?_
      refine ei_callI X ml_RX10_298 dX10_mean_29 (ct_X10_layHalves _ _ _ _ _ _ _ _ _ _ _ _ _ _ _ (by first | omega | assumption)) rfl rfl (by decide) (by decide) rfl (Nat.le_of_ble_eq_true rfl) (fun r h2 hp => ?_)
      obtain ⟨rfl, A9, B9, k9, t9, rfl⟩ := hp
      have t8 := t9 i j hij hjn trivial
      refine ei_aload_n X dX10_mean_32 rfl rfl ?_
      refine ei_getf X fl_RX10_66 dX10_mean_33 rfl rfl ?_
      refine ei_bipush (v := nI 10) X dX10_mean_36 rfl ?_
      refine ei_iload_n X dX10_mean_38 rfl rfl ?_
      refine ei_imul X dX10_mean_39 ?_
      rw [nI_mul]
      refine ei_iload_n X dX10_mean_40 rfl rfl ?_
      refine ei_iadd X dX10_mean_41 ?_
      rw [nI_add]
      refine ei_laload_n X dX10_mean_42 rfl (by first | omega | assumption) (by decide) ?_
      rw [t8.2.2]
      refine ei_aload_n X dX10_mean_43 rfl rfl ?_
      refine ei_iload_n X dX10_mean_44 rfl rfl ?_
      refine ei_iload_n X dX10_mean_45 rfl rfl ?_
      refine ei_callI1 X ml_RX10_289 dX10_mean_46 (ct_X10_oddsOf _ _ _ _ _ _ _ _ _ _ _ _ _ _ _ _ _ (by first | omega | assumption) (by first | omega | assumption)) rfl rfl (by decide) (by decide) rfl (Nat.le_of_ble_eq_true rfl) ?_
      rw [odds_nI h_S.2.2.2.1 (by omega) (by omega)]
      refine ei_i2l X dX10_mean_49 ?_
      rw [nI_l (by simp only [sN, sW, sE, sP, sH, sL, sD, sC, sO, sG, sR]; omega)]
      refine ei_iload_n X dX10_mean_50 rfl rfl ?_
      refine ei_callT1 X ml_RX10_307 dX10_mean_51 (ct_X10_partOf _ _ _ _ (by omega) (by simp only [sN, sW, sE, sP, sH, sL, sD, sC, sO, sG, sR]; omega)) rfl rfl (by decide) (by decide) (Nat.le_of_ble_eq_true rfl) ?_
      refine ei_lreturn X F dX10_mean_54 ?_
      exact ⟨by unfold meanF; rw [if_pos ⟨cq11, cq21⟩, nc_nI (by omega), nc_nI (by omega)], _, kM_tr (kM_20 _ _ _ _ 0) k9, rfl⟩
    · refine ei_ldc2 X cw_RX10_305 dX10_mean_24 ?_
      refine ei_lreturn X F dX10_mean_27 ?_
      exact ⟨by unfold meanF; rw [if_neg (by rw [cq21]; exact fun z => Bool.false_ne_true z.2)], _, kM_20 _ _ _ _ 0, rfl⟩

