/-! ===== frost ===== -/
def odds1 (t : Nat) (bad : Nat) (a : Nat) (k : Nat) : Nat := if hasB (nI bad) k then a else a * (t - 1)
def oddsN (t m bad : Nat) : Nat := itr (odds1 t bad) 1 0 m
def frostA (S : St) (b m t : Nat) : Nat := itr (fun a bad => a + if hasB (sW (frostS S m (nI bad))) b then oddsN t m bad else 0) 0 0 (2 ^ m)
theorem odds_le {t bad : Nat} (ht : t ≤ 20) : ∀ (k i a c : Nat), a ≤ 19 ^ c → itr (odds1 t bad) a i k ≤ 19 ^ (c + k)
  | 0, i, a, c, h => h
  | k + 1, i, a, c, h => by
    rw [itr_s, show c + (k + 1) = (c + 1) + k by omega]
    refine odds_le ht k (i + 1) _ (c + 1) ?_
    unfold odds1
    rw [Nat.pow_succ]
    split
    · omega
    · exact Nat.le_trans (Nat.mul_le_mul h (show t - 1 ≤ 19 by omega)) (Nat.le_refl _)
theorem oddsN_le {t m bad : Nat} (ht : t ≤ 20) (hm : m ≤ 7) : oddsN t m bad ≤ 893871739 := by
  have h := odds_le (bad := bad) ht m 0 1 0 (by decide)
  have h2 : 19 ^ (0 + m) ≤ 19 ^ 7 := Nat.pow_le_pow_right (by decide) (by omega)
  exact Nat.le_trans h (Nat.le_trans h2 (by decide))
theorem frostA_le {S : St} {b m t : Nat} (ht : t ≤ 20) (hm : m ≤ 7) : frostA S b m t ≤ 893871739 * 128 := by
  have key : ∀ (k i a : Nat), itr (fun a bad => a + if hasB (sW (frostS S m (nI bad))) b then oddsN t m bad else 0) a i k ≤ a + 893871739 * k := by
    intro k
    induction k with
    | zero => intro i a; exact Nat.le_refl _
    | succ k ih =>
      intro i a
      rw [itr_s]
      refine Nat.le_trans (ih (i + 1) _) ?_
      have := oddsN_le (bad := i) ht hm
      split <;> omega
  have h := key (2 ^ m) 0 0
  have h2 : 2 ^ m ≤ 128 := Nat.le_trans (Nat.pow_le_pow_right (by decide) hm) (by decide : 2 ^ 7 ≤ 128)
  unfold frostA
  omega
def frostF (S : St) (b m t part : Int32) : Int64 :=
  if hasF (sN S) b = true ∧ inI m 0 7 = true ∧ inI t 2 20 = true ∧ inI part 0 1 = true then partF (frostA S (nc b) (nc m) (nc t)) (nc t ^ nc m) part else 1000000001
theorem pow_le7 {t m : Nat} (ht : t ≤ 20) (hm : m ≤ 7) : t ^ m ≤ 1280000000 :=
  Nat.le_trans (Nat.pow_le_pow_left ht m) (Nat.le_trans (Nat.pow_le_pow_right (by decide) hm) (by decide : 20 ^ 7 ≤ 1280000000))
theorem shl_pow : ∀ m, m ≤ 7 → (1 : Int32) <<< (nI m &&& 31) = nI (2 ^ m) := by decide +kernel
set_option maxRecDepth 100000 in
set_option maxHeartbeats 4000000 in
theorem ct_X10_frost (n : Nat) (w se sp hr lt hd sc : Int32) (so fi wo : Nat → Int32) (I : Nat → Int32) (A : Nat → Nat → Int32) (B : Nat → Nat → Int64) (K : Value) (b m t part : Int32) (h_S : Good (n, w, se, sp, hr, lt, hd, sc, so, fi, wo)) (h_M : mI (I, A, B, K)) : e_Ct yX10_frost cX10_frost 13 (some .long) 6 [.ref 0, .int b, .int m, .int t, .int part] (mH (n, w, se, sp, hr, lt, hd, sc, so, fi, wo) (I, A, B, K)) (mP (some (.long (frostF (n, w, se, sp, hr, lt, hd, sc, so, fi, wo) b m t part))) (n, w, se, sp, hr, lt, hd, sc, so, fi, wo) (I, A, B, K)) := by
  refine e_open RX10 rfl (by decide +kernel) rfl (fun _ => Nat.le_of_ble_eq_true rfl) (fun x X F => ?_)
  obtain ⟨i11, i12⟩ := h_M
  simp only at i11 i12
  have hn : n ≤ 10 := h_S.1
  have R : ∀ (bk mk tk : Nat), bk < 10 → mk ≤ 7 → 2 ≤ tk → tk ≤ 20 → b = nI bk → m = nI mk → t = nI tk → frostF (n, w, se, sp, hr, lt, hd, sc, so, fi, wo) b m t part = partF (frostA (n, w, se, sp, hr, lt, hd, sc, so, fi, wo) bk mk tk) (tk ^ mk) part → ∀ (c bad a : Nat) (J : Nat → Int32), 2 ^ mk - bad < c → bad ≤ 2 ^ mk → (∀ k, k = 11 ∨ k = 12 ∨ k = 30 → J k = I k) → frostA (n, w, se, sp, hr, lt, hd, sc, so, fi, wo) bk mk tk = itr (fun a bad => a + if hasB (sW (frostS (n, w, se, sp, hr, lt, hd, sc, so, fi, wo) mk (nI bad))) bk then oddsN tk mk bad else 0) a bad (2 ^ mk - bad) → e_E x 89 [some (.ref 0), some (.int (nI bk)), some (.int (nI mk)), some (.int (nI tk)), some (.int part), some (.long (lN a)), none, some (.long (lN (tk ^ mk))), none, some (.int (nI bad)), none, none, none] [] (mH (n, w, se, sp, hr, lt, hd, sc, so, fi, wo) (J, updA A 13 (encF (n, w, se, sp, hr, lt, hd, sc, so, fi, wo)), B, .ref 13)) := by
    intro bk mk tk hbk hmk ht1 ht2 hb hm ht hF c
    have h2m : 2 ^ mk ≤ 128 := Nat.le_trans (Nat.pow_le_pow_right (by decide) hmk) (by decide : 2 ^ 7 ≤ 128)
    have hpw := pow_le7 ht2 hmk
    have hA := frostA_le (S := (n, w, se, sp, hr, lt, hd, sc, so, fi, wo)) (b := bk) ht2 hmk
    have hs := shl_pow mk hmk
    induction c with
    | zero => intro bad a J hk; exact absurd hk (Nat.not_lt_zero _)
    | succ c ih =>
      intro bad a J hk hbad hJ hv
      have LI : ¬ 2 ^ mk ≤ bad → ∀ (cq2 k o : Nat) (J2 : Nat → Int32) (w2 se2 hr2 lt2 : Int32) (r2 : Nat → Int32), mk - k < cq2 → k ≤ mk → (∀ i, i = 11 ∨ i = 30 → J2 i = I i) → oddsN tk mk bad = itr (odds1 tk bad) o k (mk - k) → frostS (n, w, se, sp, hr, lt, hd, sc, so, fi, wo) mk (nI bad) = itr (fun S k => hourS S (if hasB (nI bad) k then 2 else 1)) (n, w2, se2, sp, hr2, lt2, hd, sc, so, fi, r2) k (mk - k) → Good (n, w2, se2, sp, hr2, lt2, hd, sc, so, fi, r2) → e_E x 103 [some (.ref 0), some (.int (nI bk)), some (.int (nI mk)), some (.int (nI tk)), some (.int part), some (.long (lN a)), none, some (.long (lN (tk ^ mk))), none, some (.int (nI bad)), some (.long (lN o)), none, some (.int (nI k))] [] (mH (n, w2, se2, sp, hr2, lt2, hd, sc, so, fi, r2) (J2, updA A 13 (encF (n, w, se, sp, hr, lt, hd, sc, so, fi, wo)), B, .ref 13)) := by
        intro hlt cq2
        induction cq2 with
        | zero => intro k o J2 w2 se2 hr2 lt2 r2 hk; exact absurd hk (Nat.not_lt_zero _)
        | succ cq2 ih2 =>
          intro k o J2 w2 se2 hr2 lt2 r2 hk2 hkm hJ2 ho hfr hg
          have t1 : nI tk - 1 = nI (tk - 1) := by rw [show tk = (tk - 1) + 1 by omega, nI_pred]; congr 1
          refine ei_iload X dX10_frost_103 rfl ?_
          refine ei_iload_n X dX10_frost_105 rfl rfl ?_
          refine ei_icmpn_ge (tgt := 162) X dX10_frost_106 (by decide) (by first | omega | assumption) (by first | omega | assumption) (fun cq106 => ?_) (fun cq106 => ?_)
          · have e6 : frostS (n, w, se, sp, hr, lt, hd, sc, so, fi, wo) mk (nI bad) = (n, w2, se2, sp, hr2, lt2, hd, sc, so, fi, r2) := by rw [hfr, itr_ge _ _ cq106]
            have e7 : oddsN tk mk bad = o := by rw [ho, itr_ge _ _ cq106]
            refine ei_aload_n X dX10_frost_162 rfl rfl ?_
            refine ei_iconst (v := 1) X dX10_frost_163 rfl ?_
            refine ei_puti X fp_RX10_23 dX10_frost_164 rfl (Nat.le_of_ble_eq_true rfl) (pm_12 _ _ _ _ _ _ _ _ _ _ _ _ _ _ _ _) ?_
            refine ei_lload X dX10_frost_167 rfl ?_
            refine ei_aload_n X dX10_frost_169 rfl rfl ?_
            refine ei_getf X fl_RX10_88 dX10_frost_170 rfl rfl ?_
            refine ei_iload_n X dX10_frost_173 rfl rfl ?_
            refine ei_callT1 X ml_RX10_91 dX10_frost_174 (ct_X10_hasBit _ _ _) rfl rfl (by decide) (by decide) (Nat.le_of_ble_eq_true rfl) ?_
            refine ei_ifz_eq (tgt := 185) X dX10_frost_177 (by decide) (fun cq177 => ?_) (fun cq177 => ?_)
            · refine ei_lconst (v := 0) X dX10_frost_185 rfl ?_
              refine ei_ladd X dX10_frost_186 ?_
              refine ei_lstore X dX10_frost_187 (Nat.le_of_ble_eq_true rfl) rfl ?_
              refine ei_aload_n X dX10_frost_189 rfl rfl ?_
              refine ei_callI X ml_RX10_231 dX10_frost_190 (ct_X10_again _ _ _ _ _ _ _ _ _ _ _ n w se sp hr lt hd sc so fi wo _ _ _ _ updA_on) rfl rfl (by decide) (by decide) rfl (Nat.le_of_ble_eq_true rfl) (fun r h2 hp => ?_)
              obtain ⟨rfl, J190, h190, rfl⟩ := hp
              refine ei_iinc_n X dX10_frost_193 rfl rfl ?_
              refine ei_goto (tgt := 89) X dX10_frost_196 (by decide) ?_
              first | (rw [Int64.add_zero]; have h8 := ih (bad + 1) a J190 (by omega) (by omega) (fun i hi => by rw [h190 i (by omega) (by omega)]; rcases hi with h | h | h; (· subst h; rw [pk_un (by decide)]; exact hJ2 11 (by omega)); (· subst h; rw [pk_us, i12]); (· subst h; rw [pk_un (by decide)]; exact hJ2 30 (by omega))) (by rw [hv, itr_lt _ _ (by omega), e6]; simp only [sN, sW, sE, sP, sH, sL, sD, sC, sO, sG, sR, cq177, Bool.false_eq_true, if_false, Nat.add_zero]); refine ei_drop 10 ?_; refine ei_drop 12 ?_; exact h8) | (rw [lN_add]; have h8 := ih (bad + 1) (a + o) J190 (by omega) (by omega) (fun i hi => by rw [h190 i (by omega) (by omega)]; rcases hi with h | h | h; (· subst h; rw [pk_un (by decide)]; exact hJ2 11 (by omega)); (· subst h; rw [pk_us, i12]); (· subst h; rw [pk_un (by decide)]; exact hJ2 30 (by omega))) (by rw [hv, itr_lt _ _ (by omega), e6, e7]; simp only [sN, sW, sE, sP, sH, sL, sD, sC, sO, sG, sR, cq177, if_true]); refine ei_drop 10 ?_; refine ei_drop 12 ?_; exact h8)
            · refine ei_lload X dX10_frost_180 rfl ?_
              refine ei_goto (tgt := 186) X dX10_frost_182 (by decide) ?_
              refine ei_ladd X dX10_frost_186 ?_
              refine ei_lstore X dX10_frost_187 (Nat.le_of_ble_eq_true rfl) rfl ?_
              refine ei_aload_n X dX10_frost_189 rfl rfl ?_
              refine ei_callI X ml_RX10_231 dX10_frost_190 (ct_X10_again _ _ _ _ _ _ _ _ _ _ _ n w se sp hr lt hd sc so fi wo _ _ _ _ updA_on) rfl rfl (by decide) (by decide) rfl (Nat.le_of_ble_eq_true rfl) (fun r h2 hp => ?_)
              obtain ⟨rfl, J190, h190, rfl⟩ := hp
              refine ei_iinc_n X dX10_frost_193 rfl rfl ?_
              refine ei_goto (tgt := 89) X dX10_frost_196 (by decide) ?_
              first | (rw [Int64.add_zero]; have h8 := ih (bad + 1) a J190 (by omega) (by omega) (fun i hi => by rw [h190 i (by omega) (by omega)]; rcases hi with h | h | h; (· subst h; rw [pk_un (by decide)]; exact hJ2 11 (by omega)); (· subst h; rw [pk_us, i12]); (· subst h; rw [pk_un (by decide)]; exact hJ2 30 (by omega))) (by rw [hv, itr_lt _ _ (by omega), e6]; simp only [sN, sW, sE, sP, sH, sL, sD, sC, sO, sG, sR, cq177, Bool.false_eq_true, if_false, Nat.add_zero]); refine ei_drop 10 ?_; refine ei_drop 12 ?_; exact h8) | (rw [lN_add]; have h8 := ih (bad + 1) (a + o) J190 (by omega) (by omega) (fun i hi => by rw [h190 i (by omega) (by omega)]; rcases hi with h | h | h; (· subst h; rw [pk_un (by decide)]; exact hJ2 11 (by omega)); (· subst h; rw [pk_us, i12]); (· subst h; rw [pk_un (by decide)]; exact hJ2 30 (by omega))) (by rw [hv, itr_lt _ _ (by omega), e6, e7]; simp only [sN, sW, sE, sP, sH, sL, sD, sC, sO, sG, sR, cq177, if_true]); refine ei_drop 10 ?_; refine ei_drop 12 ?_; exact h8)
          · refine ei_lload X dX10_frost_109 rfl ?_
            refine ei_iload X dX10_frost_111 rfl ?_
            refine ei_iload X dX10_frost_113 rfl ?_
            refine ei_callT1 X ml_RX10_91 dX10_frost_115 (ct_X10_hasBit _ _ _) rfl rfl (by decide) (by decide) (Nat.le_of_ble_eq_true rfl) ?_
            refine ei_ifz_eq (tgt := 125) X dX10_frost_118 (by decide) (fun cq118 => ?_) (fun cq118 => ?_)
            · refine ei_iload_n X dX10_frost_125 rfl rfl ?_
              refine ei_iconst (v := 1) X dX10_frost_126 rfl ?_
              refine ei_isub X dX10_frost_127 ?_
              rw [t1]
              refine ei_i2l X dX10_frost_128 ?_
              try rw [nI_l (show tk - 1 < 2 ^ 31 by omega)]
              refine ei_lmul X dX10_frost_129 ?_
              refine ei_lstore X dX10_frost_130 (Nat.le_of_ble_eq_true rfl) rfl ?_
              refine ei_aload_n X dX10_frost_132 rfl rfl ?_
              refine ei_iload X dX10_frost_133 rfl ?_
              refine ei_iload X dX10_frost_135 rfl ?_
              refine ei_callT1 X ml_RX10_91 dX10_frost_137 (ct_X10_hasBit _ _ _) rfl rfl (by decide) (by decide) (Nat.le_of_ble_eq_true rfl) ?_
              refine ei_ifz_eq (tgt := 147) X dX10_frost_140 (by decide) (fun cq140 => ?_) (fun cq140 => ?_)
              · refine ei_iconst (v := 1) X dX10_frost_147 rfl ?_
                refine ei_puti X fp_RX10_23 dX10_frost_148 rfl (Nat.le_of_ble_eq_true rfl) (pm_12 _ _ _ _ _ _ _ _ _ _ _ _ _ _ _ _) ?_
                refine ei_aload_n X dX10_frost_151 rfl rfl ?_
                refine ei_callI1 X ml_RX10_134 dX10_frost_152 (ct_X10_hourOn _ _ _ _ _ _ _ _ _ _ _ _ _ _ _ hg (by rw [pk_us]; first | exact Or.inl rfl | exact Or.inr rfl) (by rw [pk_un (by decide)]; exact hJ2 11 (by omega) |>.trans i11)) rfl rfl (by decide) (by decide) rfl (Nat.le_of_ble_eq_true rfl) ?_
                rw [pk_us]
                refine ei_pop X dX10_frost_155 rfl ?_
                refine ei_iinc_n X dX10_frost_156 rfl rfl ?_
                refine ei_goto (tgt := 103) X dX10_frost_159 (by decide) ?_
                first | exact absurd (cq118.symm.trans cq140) Bool.false_ne_true | exact absurd (cq140.symm.trans cq118) Bool.false_ne_true | (rw [lN_mul]; exact ih2 (k + 1) _ _ _ _ _ _ _ (by omega) (by omega) (fun i hi => by rw [burnI_off (by omega), pk_un (by omega)]; exact hJ2 i hi) (by rw [ho, itr_lt _ _ (by omega)]; congr 1; unfold odds1; rw [if_neg (by rw [cq118]; exact Bool.false_ne_true)]) (by rw [hfr, itr_lt _ _ (by omega), if_neg (by rw [cq118]; exact Bool.false_ne_true)]; rfl) (good_hour hg (Or.inl rfl))) | (rw [show lN o * 1 = lN o from Int64.mul_one _]; exact ih2 (k + 1) _ _ _ _ _ _ _ (by omega) (by omega) (fun i hi => by rw [burnI_off (by omega), pk_un (by omega)]; exact hJ2 i hi) (by rw [ho, itr_lt _ _ (by omega)]; congr 1; unfold odds1; rw [if_pos cq118]) (by rw [hfr, itr_lt _ _ (by omega), if_pos cq118]; rfl) (good_hour hg (Or.inr rfl)))
              · refine ei_iconst (v := 2) X dX10_frost_143 rfl ?_
                refine ei_goto (tgt := 148) X dX10_frost_144 (by decide) ?_
                refine ei_puti X fp_RX10_23 dX10_frost_148 rfl (Nat.le_of_ble_eq_true rfl) (pm_12 _ _ _ _ _ _ _ _ _ _ _ _ _ _ _ _) ?_
                refine ei_aload_n X dX10_frost_151 rfl rfl ?_
                refine ei_callI1 X ml_RX10_134 dX10_frost_152 (ct_X10_hourOn _ _ _ _ _ _ _ _ _ _ _ _ _ _ _ hg (by rw [pk_us]; first | exact Or.inl rfl | exact Or.inr rfl) (by rw [pk_un (by decide)]; exact hJ2 11 (by omega) |>.trans i11)) rfl rfl (by decide) (by decide) rfl (Nat.le_of_ble_eq_true rfl) ?_
                rw [pk_us]
                refine ei_pop X dX10_frost_155 rfl ?_
                refine ei_iinc_n X dX10_frost_156 rfl rfl ?_
                refine ei_goto (tgt := 103) X dX10_frost_159 (by decide) ?_
                first | exact absurd (cq118.symm.trans cq140) Bool.false_ne_true | exact absurd (cq140.symm.trans cq118) Bool.false_ne_true | (rw [lN_mul]; exact ih2 (k + 1) _ _ _ _ _ _ _ (by omega) (by omega) (fun i hi => by rw [burnI_off (by omega), pk_un (by omega)]; exact hJ2 i hi) (by rw [ho, itr_lt _ _ (by omega)]; congr 1; unfold odds1; rw [if_neg (by rw [cq118]; exact Bool.false_ne_true)]) (by rw [hfr, itr_lt _ _ (by omega), if_neg (by rw [cq118]; exact Bool.false_ne_true)]; rfl) (good_hour hg (Or.inl rfl))) | (rw [show lN o * 1 = lN o from Int64.mul_one _]; exact ih2 (k + 1) _ _ _ _ _ _ _ (by omega) (by omega) (fun i hi => by rw [burnI_off (by omega), pk_un (by omega)]; exact hJ2 i hi) (by rw [ho, itr_lt _ _ (by omega)]; congr 1; unfold odds1; rw [if_pos cq118]) (by rw [hfr, itr_lt _ _ (by omega), if_pos cq118]; rfl) (good_hour hg (Or.inr rfl)))
            · refine ei_lconst (v := 1) X dX10_frost_121 rfl ?_
              refine ei_goto (tgt := 129) X dX10_frost_122 (by decide) ?_
              try rw [nI_l (show tk - 1 < 2 ^ 31 by omega)]
              refine ei_lmul X dX10_frost_129 ?_
              refine ei_lstore X dX10_frost_130 (Nat.le_of_ble_eq_true rfl) rfl ?_
              refine ei_aload_n X dX10_frost_132 rfl rfl ?_
              refine ei_iload X dX10_frost_133 rfl ?_
              refine ei_iload X dX10_frost_135 rfl ?_
              refine ei_callT1 X ml_RX10_91 dX10_frost_137 (ct_X10_hasBit _ _ _) rfl rfl (by decide) (by decide) (Nat.le_of_ble_eq_true rfl) ?_
              refine ei_ifz_eq (tgt := 147) X dX10_frost_140 (by decide) (fun cq140 => ?_) (fun cq140 => ?_)
              · refine ei_iconst (v := 1) X dX10_frost_147 rfl ?_
                refine ei_puti X fp_RX10_23 dX10_frost_148 rfl (Nat.le_of_ble_eq_true rfl) (pm_12 _ _ _ _ _ _ _ _ _ _ _ _ _ _ _ _) ?_
                refine ei_aload_n X dX10_frost_151 rfl rfl ?_
                refine ei_callI1 X ml_RX10_134 dX10_frost_152 (ct_X10_hourOn _ _ _ _ _ _ _ _ _ _ _ _ _ _ _ hg (by rw [pk_us]; first | exact Or.inl rfl | exact Or.inr rfl) (by rw [pk_un (by decide)]; exact hJ2 11 (by omega) |>.trans i11)) rfl rfl (by decide) (by decide) rfl (Nat.le_of_ble_eq_true rfl) ?_
                rw [pk_us]
                refine ei_pop X dX10_frost_155 rfl ?_
                refine ei_iinc_n X dX10_frost_156 rfl rfl ?_
                refine ei_goto (tgt := 103) X dX10_frost_159 (by decide) ?_
                first | exact absurd (cq118.symm.trans cq140) Bool.false_ne_true | exact absurd (cq140.symm.trans cq118) Bool.false_ne_true | (rw [lN_mul]; exact ih2 (k + 1) _ _ _ _ _ _ _ (by omega) (by omega) (fun i hi => by rw [burnI_off (by omega), pk_un (by omega)]; exact hJ2 i hi) (by rw [ho, itr_lt _ _ (by omega)]; congr 1; unfold odds1; rw [if_neg (by rw [cq118]; exact Bool.false_ne_true)]) (by rw [hfr, itr_lt _ _ (by omega), if_neg (by rw [cq118]; exact Bool.false_ne_true)]; rfl) (good_hour hg (Or.inl rfl))) | (rw [show lN o * 1 = lN o from Int64.mul_one _]; exact ih2 (k + 1) _ _ _ _ _ _ _ (by omega) (by omega) (fun i hi => by rw [burnI_off (by omega), pk_un (by omega)]; exact hJ2 i hi) (by rw [ho, itr_lt _ _ (by omega)]; congr 1; unfold odds1; rw [if_pos cq118]) (by rw [hfr, itr_lt _ _ (by omega), if_pos cq118]; rfl) (good_hour hg (Or.inr rfl)))
              · refine ei_iconst (v := 2) X dX10_frost_143 rfl ?_
                refine ei_goto (tgt := 148) X dX10_frost_144 (by decide) ?_
                refine ei_puti X fp_RX10_23 dX10_frost_148 rfl (Nat.le_of_ble_eq_true rfl) (pm_12 _ _ _ _ _ _ _ _ _ _ _ _ _ _ _ _) ?_
                refine ei_aload_n X dX10_frost_151 rfl rfl ?_
                refine ei_callI1 X ml_RX10_134 dX10_frost_152 (ct_X10_hourOn _ _ _ _ _ _ _ _ _ _ _ _ _ _ _ hg (by rw [pk_us]; first | exact Or.inl rfl | exact Or.inr rfl) (by rw [pk_un (by decide)]; exact hJ2 11 (by omega) |>.trans i11)) rfl rfl (by decide) (by decide) rfl (Nat.le_of_ble_eq_true rfl) ?_
                rw [pk_us]
                refine ei_pop X dX10_frost_155 rfl ?_
                refine ei_iinc_n X dX10_frost_156 rfl rfl ?_
                refine ei_goto (tgt := 103) X dX10_frost_159 (by decide) ?_
                first | exact absurd (cq118.symm.trans cq140) Bool.false_ne_true | exact absurd (cq140.symm.trans cq118) Bool.false_ne_true | (rw [lN_mul]; exact ih2 (k + 1) _ _ _ _ _ _ _ (by omega) (by omega) (fun i hi => by rw [burnI_off (by omega), pk_un (by omega)]; exact hJ2 i hi) (by rw [ho, itr_lt _ _ (by omega)]; congr 1; unfold odds1; rw [if_neg (by rw [cq118]; exact Bool.false_ne_true)]) (by rw [hfr, itr_lt _ _ (by omega), if_neg (by rw [cq118]; exact Bool.false_ne_true)]; rfl) (good_hour hg (Or.inl rfl))) | (rw [show lN o * 1 = lN o from Int64.mul_one _]; exact ih2 (k + 1) _ _ _ _ _ _ _ (by omega) (by omega) (fun i hi => by rw [burnI_off (by omega), pk_un (by omega)]; exact hJ2 i hi) (by rw [ho, itr_lt _ _ (by omega)]; congr 1; unfold odds1; rw [if_pos cq118]) (by rw [hfr, itr_lt _ _ (by omega), if_pos cq118]; rfl) (good_hour hg (Or.inr rfl)))
      refine ei_iload X dX10_frost_89 rfl ?_
      refine ei_iconst (v := 1) X dX10_frost_91 rfl ?_
      refine ei_iload_n X dX10_frost_92 rfl rfl ?_
      refine ei_ishl X dX10_frost_93 ?_
      rw [hs]
      refine ei_icmpn_ge (tgt := 199) X dX10_frost_94 (by decide) (by first | omega | assumption) (by first | omega | assumption) (fun cq94 => ?_) (fun cq94 => ?_)
      · refine ei_lload X dX10_frost_199 rfl ?_
        refine ei_lload X dX10_frost_201 rfl ?_
        refine ei_iload X dX10_frost_203 rfl ?_
        refine ei_callT1 X ml_RX10_307 dX10_frost_205 (ct_X10_partOf _ _ _ _ (by have : frostA (n, w, se, sp, hr, lt, hd, sc, so, fi, wo) bk mk tk = a := (by rw [hv, itr_ge _ _ cq94]); omega) (by omega)) rfl rfl (by decide) (by decide) (Nat.le_of_ble_eq_true rfl) ?_
        refine ei_lreturn X F dX10_frost_208 ?_
        exact ⟨by rw [hF, hv, itr_ge _ _ cq94], _, kM_13 hJ, rfl⟩
      · refine ei_lconst (v := 1) X dX10_frost_97 rfl ?_
        refine ei_lstore X dX10_frost_98 (Nat.le_of_ble_eq_true rfl) rfl ?_
        refine ei_iconst (v := 0) X dX10_frost_100 rfl ?_
        refine ei_istore X dX10_frost_101 (Nat.le_of_ble_eq_true rfl) rfl ?_
        exact LI cq94 (mk + 1) 0 1 J w se hr lt wo (by omega) (by omega) (fun i hi => hJ i (by omega)) rfl rfl h_S
  have R0 : ∀ (bk mk tk : Nat), bk < 10 → mk ≤ 7 → 2 ≤ tk → tk ≤ 20 → b = nI bk → m = nI mk → t = nI tk → frostF (n, w, se, sp, hr, lt, hd, sc, so, fi, wo) b m t part = partF (frostA (n, w, se, sp, hr, lt, hd, sc, so, fi, wo) bk mk tk) (tk ^ mk) part → ∀ (c k : Nat), mk - k < c → k ≤ mk → e_E x 63 [some (.ref 0), some (.int (nI bk)), some (.int (nI mk)), some (.int (nI tk)), some (.int part), some (.long (lN 0)), none, some (.long (lN (tk ^ k))), none, some (.int (nI k)), none, none, none] [] (mH (n, w, se, sp, hr, lt, hd, sc, so, fi, wo) (upd I 20 0, A, B, K)) := by
    intro bk mk tk hbk hmk ht1 ht2 hb hm ht hF c
    induction c with
    | zero => intro k hk; exact absurd hk (Nat.not_lt_zero _)
    | succ c ih =>
      intro k hk hkm
      refine ei_iload X dX10_frost_63 rfl ?_
      refine ei_iload_n X dX10_frost_65 rfl rfl ?_
      refine ei_icmpn_ge (tgt := 82) X dX10_frost_66 (by decide) (by first | omega | assumption) (by first | omega | assumption) (fun cq66 => ?_) (fun cq66 => ?_)
      · refine ei_aload_n X dX10_frost_82 rfl rfl ?_
        refine ei_callI X ml_RX10_225 dX10_frost_83 (ct_X10_think _ _ _ _ _ _ _ _ _ _ _ _ _ _ _) rfl rfl (by decide) (by decide) rfl (Nat.le_of_ble_eq_true rfl) (fun r h2 hp => ?_)
        obtain ⟨rfl, J83, h83, rfl⟩ := hp
        refine ei_iconst (v := 0) X dX10_frost_86 rfl ?_
        refine ei_istore X dX10_frost_87 (Nat.le_of_ble_eq_true rfl) rfl ?_
        have hkk : k = mk := by omega
        subst hkk
        exact R bk k tk hbk hmk ht1 ht2 hb hm ht hF (2 ^ k + 1) 0 0 J83 (Nat.lt_succ_self _) (Nat.zero_le _) (fun i hi => by rw [h83 i (by omega) (by omega), pk_un (by omega)]) rfl
      · refine ei_lload X dX10_frost_69 rfl ?_
        refine ei_iload_n X dX10_frost_71 rfl rfl ?_
        refine ei_i2l X dX10_frost_72 ?_
        rw [nI_l (show tk < 2 ^ 31 by omega)]
        refine ei_lmul X dX10_frost_73 ?_
        refine ei_lstore X dX10_frost_74 (Nat.le_of_ble_eq_true rfl) rfl ?_
        refine ei_iinc_n X dX10_frost_76 rfl rfl ?_
        refine ei_goto (tgt := 63) X dX10_frost_79 (by decide) ?_
        rw [lN_mul, ← Nat.pow_succ]
        exact ih (k + 1) (by omega) (by omega)
  refine ei_aload_n X dX10_frost_0 rfl rfl ?_
  refine ei_iconst (v := 0) X dX10_frost_1 rfl ?_
  refine ei_puti X fp_RX10_78 dX10_frost_2 rfl (Nat.le_of_ble_eq_true rfl) (pm_20 _ _ _ _ _ _ _ _ _ _ _ _ _ _ _ _) ?_
  refine ei_aload_n X dX10_frost_5 rfl rfl ?_
  refine ei_iload_n X dX10_frost_6 rfl rfl ?_
  refine ei_callI1 X ml_RX10_193 dX10_frost_7 (ct_X10_isBulb _ _ _ _ _ _ _ _ _ _ _ _ _ _ _ _ (by first | omega | assumption)) rfl rfl (by decide) (by decide) rfl (Nat.le_of_ble_eq_true rfl) ?_
  refine ei_ifz_eq (tgt := 50) X dX10_frost_10 (by decide) (fun cq10 => ?_) (fun cq10 => ?_)
  · refine ei_ldc2 X cw_RX10_305 dX10_frost_50 ?_
    refine ei_lreturn X F dX10_frost_53 ?_
    exact ⟨by unfold frostF; rw [if_neg (fun z => by simp only [sN, sW, sE, sP, sH, sL, sD, sC, sO, sG, sR] at z; rw [cq10] at z; exact Bool.false_ne_true z.1)], _, kM_20 _ _ _ _ 0, rfl⟩
  · refine ei_iload_n X dX10_frost_13 rfl rfl ?_
    refine ei_i2l X dX10_frost_14 ?_
    refine ei_lconst (v := 0) X dX10_frost_15 rfl ?_
    refine ei_ldc2 X cw_RX10_253 dX10_frost_16 ?_
    refine ei_callT1 X ml_RX10_84 dX10_frost_19 (ct_X10_in _ _ _ _) rfl rfl (by decide) (by decide) (Nat.le_of_ble_eq_true rfl) ?_
    rw [in_0_7]
    refine ei_ifz_eq (tgt := 50) X dX10_frost_22 (by decide) (fun cq22 => ?_) (fun cq22 => ?_)
    · refine ei_ldc2 X cw_RX10_305 dX10_frost_50 ?_
      refine ei_lreturn X F dX10_frost_53 ?_
      exact ⟨by unfold frostF; rw [if_neg (fun z => by rw [cq22] at z; exact Bool.false_ne_true z.2.1)], _, kM_20 _ _ _ _ 0, rfl⟩
    · refine ei_iload_n X dX10_frost_25 rfl rfl ?_
      refine ei_i2l X dX10_frost_26 ?_
      refine ei_ldc2 X cw_RX10_267 dX10_frost_27 ?_
      refine ei_ldc2 X cw_RX10_353 dX10_frost_30 ?_
      refine ei_callT1 X ml_RX10_84 dX10_frost_33 (ct_X10_in _ _ _ _) rfl rfl (by decide) (by decide) (Nat.le_of_ble_eq_true rfl) ?_
      rw [in_2_20]
      refine ei_ifz_eq (tgt := 50) X dX10_frost_36 (by decide) (fun cq36 => ?_) (fun cq36 => ?_)
      · refine ei_ldc2 X cw_RX10_305 dX10_frost_50 ?_
        refine ei_lreturn X F dX10_frost_53 ?_
        exact ⟨by unfold frostF; rw [if_neg (fun z => by rw [cq36] at z; exact Bool.false_ne_true z.2.2.1)], _, kM_20 _ _ _ _ 0, rfl⟩
      · refine ei_iload X dX10_frost_39 rfl ?_
        refine ei_i2l X dX10_frost_41 ?_
        refine ei_lconst (v := 0) X dX10_frost_42 rfl ?_
        refine ei_lconst (v := 1) X dX10_frost_43 rfl ?_
        refine ei_callT1 X ml_RX10_84 dX10_frost_44 (ct_X10_in _ _ _ _) rfl rfl (by decide) (by decide) (Nat.le_of_ble_eq_true rfl) ?_
        rw [in_0_1]
        refine ei_ifz_ne (tgt := 54) X dX10_frost_47 (by decide) (fun cq47 => ?_) (fun cq47 => ?_)
        · obtain ⟨bk, hbk, hb⟩ := (hasF_iff (by omega)).mp cq10
          obtain ⟨mk, -, hmk, hm⟩ := (inI_iff (lo := 0) (hi := 7) (by decide) (by decide)).mp cq22
          obtain ⟨tk, ht1, ht2, ht⟩ := (inI_iff (lo := 2) (hi := 20) (by decide) (by decide)).mp cq36
          refine ei_lconst (v := 0) X dX10_frost_54 rfl ?_
          refine ei_lstore X dX10_frost_55 (Nat.le_of_ble_eq_true rfl) rfl ?_
          refine ei_lconst (v := 1) X dX10_frost_57 rfl ?_
          refine ei_lstore X dX10_frost_58 (Nat.le_of_ble_eq_true rfl) rfl ?_
          refine ei_iconst (v := 0) X dX10_frost_60 rfl ?_
          refine ei_istore X dX10_frost_61 (Nat.le_of_ble_eq_true rfl) rfl ?_
          have h5 := R0 bk mk tk (by omega) hmk ht1 ht2 hb hm ht (by unfold frostF; rw [if_pos ⟨cq10, cq22, cq36, cq47⟩, hb, hm, ht, nc_nI (by omega), nc_nI (by omega), nc_nI (by omega)]) (mk + 1) 0 (by omega) (by omega)
          rw [← hb, ← hm, ← ht] at h5
          exact h5
        · refine ei_ldc2 X cw_RX10_305 dX10_frost_50 ?_
          refine ei_lreturn X F dX10_frost_53 ?_
          exact ⟨by unfold frostF; rw [if_neg (fun z => by rw [cq47] at z; exact Bool.false_ne_true z.2.2.2)], _, kM_20 _ _ _ _ 0, rfl⟩

