def wf1 (S : St) (z : Sh) (b : Nat) (q : Int32 × Int32 × Int32) (v : Nat) : Int32 × Int32 × Int32 :=
  if wornRowF (sN S, sW S, sE S, sP S, sH S, sL S, sD S, sC S, sO S, sG S, upd (sR S) b (nI v)) z b 1 then (q.1 + 1, if q.2.1 < 0 then nI v else q.2.1, nI v) else q
def wornFromQ (S : St) (z : Sh) (b : Nat) : Int32 × Int32 × Int32 := itr (wf1 S z b) (0, -4, -4) 0 100
def wornFromF (S : St) (Z : Nat → Sh) (d b what : Int32) : Int32 :=
  if hasF (sN S) b = true ∧ inI what 0 2 = true then (if wrongRowF Z d = 0 then (if what = 0 then (wornFromQ S (Z (nc d)) (nc b)).1 else if what = 1 then (wornFromQ S (Z (nc d)) (nc b)).2.1 else (wornFromQ S (Z (nc d)) (nc b)).2.2) else wrongRowF Z d) else -1
set_option maxRecDepth 100000 in
set_option maxHeartbeats 4000000 in
theorem ct_X10_wornFrom (n : Nat) (w se sp hr lt hd sc : Int32) (so fi wo : Nat → Int32) (I : Nat → Int32) (A : Nat → Nat → Int32) (B : Nat → Nat → Int64) (K : Value) (Z : Nat → Sh) (d b what : Int32) (h_S : Good (n, w, se, sp, hr, lt, hd, sc, so, fi, wo)) (h_M : mI (I, A, B, K)) (h_R : RS Z (I, A, B, K)) : e_Ct yX10_wornFrom cX10_wornFrom 10 (some .int) 8 [.ref 0, .int d, .int b, .int what] (mH (n, w, se, sp, hr, lt, hd, sc, so, fi, wo) (I, A, B, K)) (mP (some (.int (wornFromF (n, w, se, sp, hr, lt, hd, sc, so, fi, wo) Z d b what))) (n, w, se, sp, hr, lt, hd, sc, so, fi, wo) (I, A, B, K)) := by
  refine e_open RX10 rfl (by decide +kernel) rfl (fun _ => Nat.le_of_ble_eq_true rfl) (fun x X F => ?_)
  obtain ⟨i11, i12⟩ := h_M
  simp only at i11 i12
  have hn : n ≤ 10 := h_S.1
  have hR := RS_20 _ _ _ _ h_R 0
  have L0 : ∀ (dk bk : Nat), dk < 8 → bk < 10 → zH (Z dk) = 2 → (wornFromF (n, w, se, sp, hr, lt, hd, sc, so, fi, wo) Z d b what = if what = 0 then (wornFromQ (n, w, se, sp, hr, lt, hd, sc, so, fi, wo) (Z dk) bk).1 else if what = 1 then (wornFromQ (n, w, se, sp, hr, lt, hd, sc, so, fi, wo) (Z dk) bk).2.1 else (wornFromQ (n, w, se, sp, hr, lt, hd, sc, so, fi, wo) (Z dk) bk).2.2) → ∀ (m k : Nat) (q : Int32 × Int32 × Int32) (J r : Nat → Int32), 100 - k < m → k ≤ 100 → (∀ k, k = 11 ∨ k = 12 ∨ k = 30 → J k = I k) → wornFromQ (n, w, se, sp, hr, lt, hd, sc, so, fi, wo) (Z dk) bk = itr (wf1 (n, w, se, sp, hr, lt, hd, sc, so, fi, wo) (Z dk) bk) q k (100 - k) → e_E x 62 [some (.ref 0), some (.int (nI dk)), some (.int (nI bk)), some (.int what), none, some (.int q.1), some (.int q.2.1), some (.int q.2.2), some (.int (nI k)), none] [] (mH (n, w, se, sp, hr, lt, hd, sc, so, fi, wo) (J, updA A 13 (encF (n, w, se, sp, hr, lt, hd, sc, so, fi, wo)), B, .ref 13)) := by
    intro dk bk hdk hbk hz hF m
    induction m with
    | zero => intro k q J r hk; exact absurd hk (Nat.not_lt_zero _)
    | succ m ih =>
      intro k q J r hk hk2 hJ hv
      have hRJ : RS Z (J, updA A 13 (encF (n, w, se, sp, hr, lt, hd, sc, so, fi, wo)), B, .ref 13) := RS_k h_R (kM_13 hJ)
      refine ei_iload X dX10_wornFrom_62 rfl ?_
      refine ei_bipush (v := nI 100) X dX10_wornFrom_64 rfl ?_
      refine ei_icmpn_ge (tgt := 140) X dX10_wornFrom_66 (by decide) (by first | omega | assumption) (by first | omega | assumption) (fun cq66 => ?_) (fun cq66 => ?_)
      · refine ei_iload_n X dX10_wornFrom_140 rfl rfl ?_
        refine ei_if_ne (tgt := 149) X dX10_wornFrom_141 (by decide) (fun cq141 => ?_) (fun cq141 => ?_)
        · refine ei_iload_n X dX10_wornFrom_149 rfl rfl ?_
          refine ei_iconst (v := 1) X dX10_wornFrom_150 rfl ?_
          refine ei_icmp_ne (tgt := 159) X dX10_wornFrom_151 (by decide) (fun cq151 => ?_) (fun cq151 => ?_)
          · refine ei_iload X dX10_wornFrom_159 rfl ?_
            refine ei_ireturn X F dX10_wornFrom_161 ?_
            exact ⟨by rw [hF, if_neg cq141, if_neg cq151, hv, itr_ge _ _ (by omega)], _, kM_13 hJ, rfl⟩
          · refine ei_iload X dX10_wornFrom_154 rfl ?_
            refine ei_goto (tgt := 161) X dX10_wornFrom_156 (by decide) ?_
            refine ei_ireturn X F dX10_wornFrom_161 ?_
            exact ⟨by rw [hF, if_neg cq141, if_pos cq151, hv, itr_ge _ _ (by omega)], _, kM_13 hJ, rfl⟩
        · refine ei_iload X dX10_wornFrom_144 rfl ?_
          refine ei_goto (tgt := 161) X dX10_wornFrom_146 (by decide) ?_
          refine ei_ireturn X F dX10_wornFrom_161 ?_
          exact ⟨by rw [hF, if_pos cq141, hv, itr_ge _ _ (by omega)], _, kM_13 hJ, rfl⟩
      · refine ei_aload_n X dX10_wornFrom_69 rfl rfl ?_
        refine ei_getf X fl_RX10_16 dX10_wornFrom_70 rfl rfl ?_
        refine ei_iload_n X dX10_wornFrom_73 rfl rfl ?_
        refine ei_iload X dX10_wornFrom_74 rfl ?_
        refine ei_iastore_n X dX10_wornFrom_76 rfl (by first | omega | assumption) (by decide) (pm_r3 _ _ _ _ _ _ _ _ _ _ _ _ _ _ _ _) ?_
        refine ei_aload_n X dX10_wornFrom_77 rfl rfl ?_
        refine ei_iload_n X dX10_wornFrom_78 rfl rfl ?_
        refine ei_iload_n X dX10_wornFrom_79 rfl rfl ?_
        refine ei_iconst (v := 1) X dX10_wornFrom_80 rfl ?_
        refine ei_callI X ml_RX10_350 dX10_wornFrom_81 (ct_X10_isWornRow _ _ _ _ _ _ _ _ _ _ _ n w se sp hr lt hd sc so fi wo _ _ _ _ Z dk bk 1 hdk hbk (by omega) hz hRJ (good_R _ _ _ _ _ _ _ _ _ _ _ h_S (gd_nI (m := 999) (by omega) (by omega))) ((hJ 12 (by omega)).trans i12) ((hJ 11 (by omega)).trans i11) updA_on) rfl rfl (by decide) (by decide) rfl (Nat.le_of_ble_eq_true rfl) (fun r h hp => ?_)
        obtain ⟨rfl, J2, hJ2, rfl⟩ := hp
        refine ei_istore X dX10_wornFrom_84 (Nat.le_of_ble_eq_true rfl) rfl ?_
        refine ei_iload X dX10_wornFrom_86 rfl ?_
        refine ei_iload X dX10_wornFrom_88 rfl ?_
        refine ei_ifz_eq (tgt := 97) X dX10_wornFrom_90 (by decide) (fun cq90 => ?_) (fun cq90 => ?_)
        · refine ei_iconst (v := 0) X dX10_wornFrom_97 rfl ?_
          refine ei_iadd X dX10_wornFrom_98 ?_
          refine ei_istore X dX10_wornFrom_99 (Nat.le_of_ble_eq_true rfl) rfl ?_
          refine ei_iload X dX10_wornFrom_101 rfl ?_
          refine ei_ifz_eq (tgt := 116) X dX10_wornFrom_103 (by decide) (fun cq103 => ?_) (fun cq103 => ?_)
          · refine ei_iload X dX10_wornFrom_116 rfl ?_
            refine ei_istore X dX10_wornFrom_118 (Nat.le_of_ble_eq_true rfl) rfl ?_
            refine ei_iload X dX10_wornFrom_120 rfl ?_
            refine ei_ifz_eq (tgt := 130) X dX10_wornFrom_122 (by decide) (fun cq122 => ?_) (fun cq122 => ?_)
            · refine ei_iload X dX10_wornFrom_130 rfl ?_
              refine ei_istore X dX10_wornFrom_132 (Nat.le_of_ble_eq_true rfl) rfl ?_
              refine ei_iinc_n X dX10_wornFrom_134 rfl rfl ?_
              refine ei_goto (tgt := 62) X dX10_wornFrom_137 (by decide) ?_
              first | exact absurd (cq90.symm.trans cq103) Bool.false_ne_true | exact absurd (cq103.symm.trans cq90) Bool.false_ne_true | exact absurd (cq90.symm.trans cq122) Bool.false_ne_true | exact absurd (cq122.symm.trans cq90) Bool.false_ne_true | (have h9 := ih (k + 1) q J2 r (by omega) (by omega) (fun i hi => (hJ2 i (by omega) (by omega) (by omega)).trans (hJ i hi)) (by rw [hv, itr_lt _ _ (by omega)]; congr 1; unfold wf1; rw [if_neg (by rw [cq90]; exact Bool.false_ne_true)]); refine ei_drop 9 ?_; rw [Int32.add_zero]; exact h9) | (have h9 := ih (k + 1) (q.1 + 1, q.2.1, nI k) J2 r (by omega) (by omega) (fun i hi => (hJ2 i (by omega) (by omega) (by omega)).trans (hJ i hi)) (by rw [hv, itr_lt _ _ (by omega)]; congr 1; unfold wf1; rw [if_pos cq90, if_neg (Int32.not_lt.mpr cq108)]); refine ei_drop 9 ?_; exact h9) | (have h9 := ih (k + 1) (q.1 + 1, nI k, nI k) J2 r (by omega) (by omega) (fun i hi => (hJ2 i (by omega) (by omega) (by omega)).trans (hJ i hi)) (by rw [hv, itr_lt _ _ (by omega)]; congr 1; unfold wf1; rw [if_pos cq90, if_pos (Int32.not_le.mp cq108)]); refine ei_drop 9 ?_; exact h9)
            · refine ei_iload X dX10_wornFrom_125 rfl ?_
              refine ei_goto (tgt := 132) X dX10_wornFrom_127 (by decide) ?_
              refine ei_istore X dX10_wornFrom_132 (Nat.le_of_ble_eq_true rfl) rfl ?_
              refine ei_iinc_n X dX10_wornFrom_134 rfl rfl ?_
              refine ei_goto (tgt := 62) X dX10_wornFrom_137 (by decide) ?_
              first | exact absurd (cq90.symm.trans cq103) Bool.false_ne_true | exact absurd (cq103.symm.trans cq90) Bool.false_ne_true | exact absurd (cq90.symm.trans cq122) Bool.false_ne_true | exact absurd (cq122.symm.trans cq90) Bool.false_ne_true | (have h9 := ih (k + 1) q J2 r (by omega) (by omega) (fun i hi => (hJ2 i (by omega) (by omega) (by omega)).trans (hJ i hi)) (by rw [hv, itr_lt _ _ (by omega)]; congr 1; unfold wf1; rw [if_neg (by rw [cq90]; exact Bool.false_ne_true)]); refine ei_drop 9 ?_; rw [Int32.add_zero]; exact h9) | (have h9 := ih (k + 1) (q.1 + 1, q.2.1, nI k) J2 r (by omega) (by omega) (fun i hi => (hJ2 i (by omega) (by omega) (by omega)).trans (hJ i hi)) (by rw [hv, itr_lt _ _ (by omega)]; congr 1; unfold wf1; rw [if_pos cq90, if_neg (Int32.not_lt.mpr cq108)]); refine ei_drop 9 ?_; exact h9) | (have h9 := ih (k + 1) (q.1 + 1, nI k, nI k) J2 r (by omega) (by omega) (fun i hi => (hJ2 i (by omega) (by omega) (by omega)).trans (hJ i hi)) (by rw [hv, itr_lt _ _ (by omega)]; congr 1; unfold wf1; rw [if_pos cq90, if_pos (Int32.not_le.mp cq108)]); refine ei_drop 9 ?_; exact h9)
          · refine ei_iload X dX10_wornFrom_106 rfl ?_
            refine ei_if_ge (tgt := 116) X dX10_wornFrom_108 (by decide) (fun cq108 => ?_) (fun cq108 => ?_)
            · refine ei_iload X dX10_wornFrom_116 rfl ?_
              refine ei_istore X dX10_wornFrom_118 (Nat.le_of_ble_eq_true rfl) rfl ?_
              refine ei_iload X dX10_wornFrom_120 rfl ?_
              refine ei_ifz_eq (tgt := 130) X dX10_wornFrom_122 (by decide) (fun cq122 => ?_) (fun cq122 => ?_)
              · refine ei_iload X dX10_wornFrom_130 rfl ?_
                refine ei_istore X dX10_wornFrom_132 (Nat.le_of_ble_eq_true rfl) rfl ?_
                refine ei_iinc_n X dX10_wornFrom_134 rfl rfl ?_
                refine ei_goto (tgt := 62) X dX10_wornFrom_137 (by decide) ?_
                first | exact absurd (cq90.symm.trans cq103) Bool.false_ne_true | exact absurd (cq103.symm.trans cq90) Bool.false_ne_true | exact absurd (cq90.symm.trans cq122) Bool.false_ne_true | exact absurd (cq122.symm.trans cq90) Bool.false_ne_true | (have h9 := ih (k + 1) q J2 r (by omega) (by omega) (fun i hi => (hJ2 i (by omega) (by omega) (by omega)).trans (hJ i hi)) (by rw [hv, itr_lt _ _ (by omega)]; congr 1; unfold wf1; rw [if_neg (by rw [cq90]; exact Bool.false_ne_true)]); refine ei_drop 9 ?_; rw [Int32.add_zero]; exact h9) | (have h9 := ih (k + 1) (q.1 + 1, q.2.1, nI k) J2 r (by omega) (by omega) (fun i hi => (hJ2 i (by omega) (by omega) (by omega)).trans (hJ i hi)) (by rw [hv, itr_lt _ _ (by omega)]; congr 1; unfold wf1; rw [if_pos cq90, if_neg (Int32.not_lt.mpr cq108)]); refine ei_drop 9 ?_; exact h9) | (have h9 := ih (k + 1) (q.1 + 1, nI k, nI k) J2 r (by omega) (by omega) (fun i hi => (hJ2 i (by omega) (by omega) (by omega)).trans (hJ i hi)) (by rw [hv, itr_lt _ _ (by omega)]; congr 1; unfold wf1; rw [if_pos cq90, if_pos (Int32.not_le.mp cq108)]); refine ei_drop 9 ?_; exact h9)
              · refine ei_iload X dX10_wornFrom_125 rfl ?_
                refine ei_goto (tgt := 132) X dX10_wornFrom_127 (by decide) ?_
                refine ei_istore X dX10_wornFrom_132 (Nat.le_of_ble_eq_true rfl) rfl ?_
                refine ei_iinc_n X dX10_wornFrom_134 rfl rfl ?_
                refine ei_goto (tgt := 62) X dX10_wornFrom_137 (by decide) ?_
                first | exact absurd (cq90.symm.trans cq103) Bool.false_ne_true | exact absurd (cq103.symm.trans cq90) Bool.false_ne_true | exact absurd (cq90.symm.trans cq122) Bool.false_ne_true | exact absurd (cq122.symm.trans cq90) Bool.false_ne_true | (have h9 := ih (k + 1) q J2 r (by omega) (by omega) (fun i hi => (hJ2 i (by omega) (by omega) (by omega)).trans (hJ i hi)) (by rw [hv, itr_lt _ _ (by omega)]; congr 1; unfold wf1; rw [if_neg (by rw [cq90]; exact Bool.false_ne_true)]); refine ei_drop 9 ?_; rw [Int32.add_zero]; exact h9) | (have h9 := ih (k + 1) (q.1 + 1, q.2.1, nI k) J2 r (by omega) (by omega) (fun i hi => (hJ2 i (by omega) (by omega) (by omega)).trans (hJ i hi)) (by rw [hv, itr_lt _ _ (by omega)]; congr 1; unfold wf1; rw [if_pos cq90, if_neg (Int32.not_lt.mpr cq108)]); refine ei_drop 9 ?_; exact h9) | (have h9 := ih (k + 1) (q.1 + 1, nI k, nI k) J2 r (by omega) (by omega) (fun i hi => (hJ2 i (by omega) (by omega) (by omega)).trans (hJ i hi)) (by rw [hv, itr_lt _ _ (by omega)]; congr 1; unfold wf1; rw [if_pos cq90, if_pos (Int32.not_le.mp cq108)]); refine ei_drop 9 ?_; exact h9)
            · refine ei_iload X dX10_wornFrom_111 rfl ?_
              refine ei_goto (tgt := 118) X dX10_wornFrom_113 (by decide) ?_
              refine ei_istore X dX10_wornFrom_118 (Nat.le_of_ble_eq_true rfl) rfl ?_
              refine ei_iload X dX10_wornFrom_120 rfl ?_
              refine ei_ifz_eq (tgt := 130) X dX10_wornFrom_122 (by decide) (fun cq122 => ?_) (fun cq122 => ?_)
              · refine ei_iload X dX10_wornFrom_130 rfl ?_
                refine ei_istore X dX10_wornFrom_132 (Nat.le_of_ble_eq_true rfl) rfl ?_
                refine ei_iinc_n X dX10_wornFrom_134 rfl rfl ?_
                refine ei_goto (tgt := 62) X dX10_wornFrom_137 (by decide) ?_
                first | exact absurd (cq90.symm.trans cq103) Bool.false_ne_true | exact absurd (cq103.symm.trans cq90) Bool.false_ne_true | exact absurd (cq90.symm.trans cq122) Bool.false_ne_true | exact absurd (cq122.symm.trans cq90) Bool.false_ne_true | (have h9 := ih (k + 1) q J2 r (by omega) (by omega) (fun i hi => (hJ2 i (by omega) (by omega) (by omega)).trans (hJ i hi)) (by rw [hv, itr_lt _ _ (by omega)]; congr 1; unfold wf1; rw [if_neg (by rw [cq90]; exact Bool.false_ne_true)]); refine ei_drop 9 ?_; rw [Int32.add_zero]; exact h9) | (have h9 := ih (k + 1) (q.1 + 1, q.2.1, nI k) J2 r (by omega) (by omega) (fun i hi => (hJ2 i (by omega) (by omega) (by omega)).trans (hJ i hi)) (by rw [hv, itr_lt _ _ (by omega)]; congr 1; unfold wf1; rw [if_pos cq90, if_neg (Int32.not_lt.mpr cq108)]); refine ei_drop 9 ?_; exact h9) | (have h9 := ih (k + 1) (q.1 + 1, nI k, nI k) J2 r (by omega) (by omega) (fun i hi => (hJ2 i (by omega) (by omega) (by omega)).trans (hJ i hi)) (by rw [hv, itr_lt _ _ (by omega)]; congr 1; unfold wf1; rw [if_pos cq90, if_pos (Int32.not_le.mp cq108)]); refine ei_drop 9 ?_; exact h9)
              · refine ei_iload X dX10_wornFrom_125 rfl ?_
                refine ei_goto (tgt := 132) X dX10_wornFrom_127 (by decide) ?_
                refine ei_istore X dX10_wornFrom_132 (Nat.le_of_ble_eq_true rfl) rfl ?_
                refine ei_iinc_n X dX10_wornFrom_134 rfl rfl ?_
                refine ei_goto (tgt := 62) X dX10_wornFrom_137 (by decide) ?_
                first | exact absurd (cq90.symm.trans cq103) Bool.false_ne_true | exact absurd (cq103.symm.trans cq90) Bool.false_ne_true | exact absurd (cq90.symm.trans cq122) Bool.false_ne_true | exact absurd (cq122.symm.trans cq90) Bool.false_ne_true | (have h9 := ih (k + 1) q J2 r (by omega) (by omega) (fun i hi => (hJ2 i (by omega) (by omega) (by omega)).trans (hJ i hi)) (by rw [hv, itr_lt _ _ (by omega)]; congr 1; unfold wf1; rw [if_neg (by rw [cq90]; exact Bool.false_ne_true)]); refine ei_drop 9 ?_; rw [Int32.add_zero]; exact h9) | (have h9 := ih (k + 1) (q.1 + 1, q.2.1, nI k) J2 r (by omega) (by omega) (fun i hi => (hJ2 i (by omega) (by omega) (by omega)).trans (hJ i hi)) (by rw [hv, itr_lt _ _ (by omega)]; congr 1; unfold wf1; rw [if_pos cq90, if_neg (Int32.not_lt.mpr cq108)]); refine ei_drop 9 ?_; exact h9) | (have h9 := ih (k + 1) (q.1 + 1, nI k, nI k) J2 r (by omega) (by omega) (fun i hi => (hJ2 i (by omega) (by omega) (by omega)).trans (hJ i hi)) (by rw [hv, itr_lt _ _ (by omega)]; congr 1; unfold wf1; rw [if_pos cq90, if_pos (Int32.not_le.mp cq108)]); refine ei_drop 9 ?_; exact h9)
        · refine ei_iconst (v := 1) X dX10_wornFrom_93 rfl ?_
          refine ei_goto (tgt := 98) X dX10_wornFrom_94 (by decide) ?_
          refine ei_iadd X dX10_wornFrom_98 ?_
          refine ei_istore X dX10_wornFrom_99 (Nat.le_of_ble_eq_true rfl) rfl ?_
          refine ei_iload X dX10_wornFrom_101 rfl ?_
          refine ei_ifz_eq (tgt := 116) X dX10_wornFrom_103 (by decide) (fun cq103 => ?_) (fun cq103 => ?_)
          · refine ei_iload X dX10_wornFrom_116 rfl ?_
            refine ei_istore X dX10_wornFrom_118 (Nat.le_of_ble_eq_true rfl) rfl ?_
            refine ei_iload X dX10_wornFrom_120 rfl ?_
            refine ei_ifz_eq (tgt := 130) X dX10_wornFrom_122 (by decide) (fun cq122 => ?_) (fun cq122 => ?_)
            · refine ei_iload X dX10_wornFrom_130 rfl ?_
              refine ei_istore X dX10_wornFrom_132 (Nat.le_of_ble_eq_true rfl) rfl ?_
              refine ei_iinc_n X dX10_wornFrom_134 rfl rfl ?_
              refine ei_goto (tgt := 62) X dX10_wornFrom_137 (by decide) ?_
              first | exact absurd (cq90.symm.trans cq103) Bool.false_ne_true | exact absurd (cq103.symm.trans cq90) Bool.false_ne_true | exact absurd (cq90.symm.trans cq122) Bool.false_ne_true | exact absurd (cq122.symm.trans cq90) Bool.false_ne_true | (have h9 := ih (k + 1) q J2 r (by omega) (by omega) (fun i hi => (hJ2 i (by omega) (by omega) (by omega)).trans (hJ i hi)) (by rw [hv, itr_lt _ _ (by omega)]; congr 1; unfold wf1; rw [if_neg (by rw [cq90]; exact Bool.false_ne_true)]); refine ei_drop 9 ?_; rw [Int32.add_zero]; exact h9) | (have h9 := ih (k + 1) (q.1 + 1, q.2.1, nI k) J2 r (by omega) (by omega) (fun i hi => (hJ2 i (by omega) (by omega) (by omega)).trans (hJ i hi)) (by rw [hv, itr_lt _ _ (by omega)]; congr 1; unfold wf1; rw [if_pos cq90, if_neg (Int32.not_lt.mpr cq108)]); refine ei_drop 9 ?_; exact h9) | (have h9 := ih (k + 1) (q.1 + 1, nI k, nI k) J2 r (by omega) (by omega) (fun i hi => (hJ2 i (by omega) (by omega) (by omega)).trans (hJ i hi)) (by rw [hv, itr_lt _ _ (by omega)]; congr 1; unfold wf1; rw [if_pos cq90, if_pos (Int32.not_le.mp cq108)]); refine ei_drop 9 ?_; exact h9)
            · refine ei_iload X dX10_wornFrom_125 rfl ?_
              refine ei_goto (tgt := 132) X dX10_wornFrom_127 (by decide) ?_
              refine ei_istore X dX10_wornFrom_132 (Nat.le_of_ble_eq_true rfl) rfl ?_
              refine ei_iinc_n X dX10_wornFrom_134 rfl rfl ?_
              refine ei_goto (tgt := 62) X dX10_wornFrom_137 (by decide) ?_
              first | exact absurd (cq90.symm.trans cq103) Bool.false_ne_true | exact absurd (cq103.symm.trans cq90) Bool.false_ne_true | exact absurd (cq90.symm.trans cq122) Bool.false_ne_true | exact absurd (cq122.symm.trans cq90) Bool.false_ne_true | (have h9 := ih (k + 1) q J2 r (by omega) (by omega) (fun i hi => (hJ2 i (by omega) (by omega) (by omega)).trans (hJ i hi)) (by rw [hv, itr_lt _ _ (by omega)]; congr 1; unfold wf1; rw [if_neg (by rw [cq90]; exact Bool.false_ne_true)]); refine ei_drop 9 ?_; rw [Int32.add_zero]; exact h9) | (have h9 := ih (k + 1) (q.1 + 1, q.2.1, nI k) J2 r (by omega) (by omega) (fun i hi => (hJ2 i (by omega) (by omega) (by omega)).trans (hJ i hi)) (by rw [hv, itr_lt _ _ (by omega)]; congr 1; unfold wf1; rw [if_pos cq90, if_neg (Int32.not_lt.mpr cq108)]); refine ei_drop 9 ?_; exact h9) | (have h9 := ih (k + 1) (q.1 + 1, nI k, nI k) J2 r (by omega) (by omega) (fun i hi => (hJ2 i (by omega) (by omega) (by omega)).trans (hJ i hi)) (by rw [hv, itr_lt _ _ (by omega)]; congr 1; unfold wf1; rw [if_pos cq90, if_pos (Int32.not_le.mp cq108)]); refine ei_drop 9 ?_; exact h9)
          · refine ei_iload X dX10_wornFrom_106 rfl ?_
            refine ei_if_ge (tgt := 116) X dX10_wornFrom_108 (by decide) (fun cq108 => ?_) (fun cq108 => ?_)
            · refine ei_iload X dX10_wornFrom_116 rfl ?_
              refine ei_istore X dX10_wornFrom_118 (Nat.le_of_ble_eq_true rfl) rfl ?_
              refine ei_iload X dX10_wornFrom_120 rfl ?_
              refine ei_ifz_eq (tgt := 130) X dX10_wornFrom_122 (by decide) (fun cq122 => ?_) (fun cq122 => ?_)
              · refine ei_iload X dX10_wornFrom_130 rfl ?_
                refine ei_istore X dX10_wornFrom_132 (Nat.le_of_ble_eq_true rfl) rfl ?_
                refine ei_iinc_n X dX10_wornFrom_134 rfl rfl ?_
                refine ei_goto (tgt := 62) X dX10_wornFrom_137 (by decide) ?_
                first | exact absurd (cq90.symm.trans cq103) Bool.false_ne_true | exact absurd (cq103.symm.trans cq90) Bool.false_ne_true | exact absurd (cq90.symm.trans cq122) Bool.false_ne_true | exact absurd (cq122.symm.trans cq90) Bool.false_ne_true | (have h9 := ih (k + 1) q J2 r (by omega) (by omega) (fun i hi => (hJ2 i (by omega) (by omega) (by omega)).trans (hJ i hi)) (by rw [hv, itr_lt _ _ (by omega)]; congr 1; unfold wf1; rw [if_neg (by rw [cq90]; exact Bool.false_ne_true)]); refine ei_drop 9 ?_; rw [Int32.add_zero]; exact h9) | (have h9 := ih (k + 1) (q.1 + 1, q.2.1, nI k) J2 r (by omega) (by omega) (fun i hi => (hJ2 i (by omega) (by omega) (by omega)).trans (hJ i hi)) (by rw [hv, itr_lt _ _ (by omega)]; congr 1; unfold wf1; rw [if_pos cq90, if_neg (Int32.not_lt.mpr cq108)]); refine ei_drop 9 ?_; exact h9) | (have h9 := ih (k + 1) (q.1 + 1, nI k, nI k) J2 r (by omega) (by omega) (fun i hi => (hJ2 i (by omega) (by omega) (by omega)).trans (hJ i hi)) (by rw [hv, itr_lt _ _ (by omega)]; congr 1; unfold wf1; rw [if_pos cq90, if_pos (Int32.not_le.mp cq108)]); refine ei_drop 9 ?_; exact h9)
              · refine ei_iload X dX10_wornFrom_125 rfl ?_
                refine ei_goto (tgt := 132) X dX10_wornFrom_127 (by decide) ?_
                refine ei_istore X dX10_wornFrom_132 (Nat.le_of_ble_eq_true rfl) rfl ?_
                refine ei_iinc_n X dX10_wornFrom_134 rfl rfl ?_
                refine ei_goto (tgt := 62) X dX10_wornFrom_137 (by decide) ?_
                first | exact absurd (cq90.symm.trans cq103) Bool.false_ne_true | exact absurd (cq103.symm.trans cq90) Bool.false_ne_true | exact absurd (cq90.symm.trans cq122) Bool.false_ne_true | exact absurd (cq122.symm.trans cq90) Bool.false_ne_true | (have h9 := ih (k + 1) q J2 r (by omega) (by omega) (fun i hi => (hJ2 i (by omega) (by omega) (by omega)).trans (hJ i hi)) (by rw [hv, itr_lt _ _ (by omega)]; congr 1; unfold wf1; rw [if_neg (by rw [cq90]; exact Bool.false_ne_true)]); refine ei_drop 9 ?_; rw [Int32.add_zero]; exact h9) | (have h9 := ih (k + 1) (q.1 + 1, q.2.1, nI k) J2 r (by omega) (by omega) (fun i hi => (hJ2 i (by omega) (by omega) (by omega)).trans (hJ i hi)) (by rw [hv, itr_lt _ _ (by omega)]; congr 1; unfold wf1; rw [if_pos cq90, if_neg (Int32.not_lt.mpr cq108)]); refine ei_drop 9 ?_; exact h9) | (have h9 := ih (k + 1) (q.1 + 1, nI k, nI k) J2 r (by omega) (by omega) (fun i hi => (hJ2 i (by omega) (by omega) (by omega)).trans (hJ i hi)) (by rw [hv, itr_lt _ _ (by omega)]; congr 1; unfold wf1; rw [if_pos cq90, if_pos (Int32.not_le.mp cq108)]); refine ei_drop 9 ?_; exact h9)
            · refine ei_iload X dX10_wornFrom_111 rfl ?_
              refine ei_goto (tgt := 118) X dX10_wornFrom_113 (by decide) ?_
              refine ei_istore X dX10_wornFrom_118 (Nat.le_of_ble_eq_true rfl) rfl ?_
              refine ei_iload X dX10_wornFrom_120 rfl ?_
              refine ei_ifz_eq (tgt := 130) X dX10_wornFrom_122 (by decide) (fun cq122 => ?_) (fun cq122 => ?_)
              · refine ei_iload X dX10_wornFrom_130 rfl ?_
                refine ei_istore X dX10_wornFrom_132 (Nat.le_of_ble_eq_true rfl) rfl ?_
                refine ei_iinc_n X dX10_wornFrom_134 rfl rfl ?_
                refine ei_goto (tgt := 62) X dX10_wornFrom_137 (by decide) ?_
                first | exact absurd (cq90.symm.trans cq103) Bool.false_ne_true | exact absurd (cq103.symm.trans cq90) Bool.false_ne_true | exact absurd (cq90.symm.trans cq122) Bool.false_ne_true | exact absurd (cq122.symm.trans cq90) Bool.false_ne_true | (have h9 := ih (k + 1) q J2 r (by omega) (by omega) (fun i hi => (hJ2 i (by omega) (by omega) (by omega)).trans (hJ i hi)) (by rw [hv, itr_lt _ _ (by omega)]; congr 1; unfold wf1; rw [if_neg (by rw [cq90]; exact Bool.false_ne_true)]); refine ei_drop 9 ?_; rw [Int32.add_zero]; exact h9) | (have h9 := ih (k + 1) (q.1 + 1, q.2.1, nI k) J2 r (by omega) (by omega) (fun i hi => (hJ2 i (by omega) (by omega) (by omega)).trans (hJ i hi)) (by rw [hv, itr_lt _ _ (by omega)]; congr 1; unfold wf1; rw [if_pos cq90, if_neg (Int32.not_lt.mpr cq108)]); refine ei_drop 9 ?_; exact h9) | (have h9 := ih (k + 1) (q.1 + 1, nI k, nI k) J2 r (by omega) (by omega) (fun i hi => (hJ2 i (by omega) (by omega) (by omega)).trans (hJ i hi)) (by rw [hv, itr_lt _ _ (by omega)]; congr 1; unfold wf1; rw [if_pos cq90, if_pos (Int32.not_le.mp cq108)]); refine ei_drop 9 ?_; exact h9)
              · refine ei_iload X dX10_wornFrom_125 rfl ?_
                refine ei_goto (tgt := 132) X dX10_wornFrom_127 (by decide) ?_
                refine ei_istore X dX10_wornFrom_132 (Nat.le_of_ble_eq_true rfl) rfl ?_
                refine ei_iinc_n X dX10_wornFrom_134 rfl rfl ?_
                refine ei_goto (tgt := 62) X dX10_wornFrom_137 (by decide) ?_
                first | exact absurd (cq90.symm.trans cq103) Bool.false_ne_true | exact absurd (cq103.symm.trans cq90) Bool.false_ne_true | exact absurd (cq90.symm.trans cq122) Bool.false_ne_true | exact absurd (cq122.symm.trans cq90) Bool.false_ne_true | (have h9 := ih (k + 1) q J2 r (by omega) (by omega) (fun i hi => (hJ2 i (by omega) (by omega) (by omega)).trans (hJ i hi)) (by rw [hv, itr_lt _ _ (by omega)]; congr 1; unfold wf1; rw [if_neg (by rw [cq90]; exact Bool.false_ne_true)]); refine ei_drop 9 ?_; rw [Int32.add_zero]; exact h9) | (have h9 := ih (k + 1) (q.1 + 1, q.2.1, nI k) J2 r (by omega) (by omega) (fun i hi => (hJ2 i (by omega) (by omega) (by omega)).trans (hJ i hi)) (by rw [hv, itr_lt _ _ (by omega)]; congr 1; unfold wf1; rw [if_pos cq90, if_neg (Int32.not_lt.mpr cq108)]); refine ei_drop 9 ?_; exact h9) | (have h9 := ih (k + 1) (q.1 + 1, nI k, nI k) J2 r (by omega) (by omega) (fun i hi => (hJ2 i (by omega) (by omega) (by omega)).trans (hJ i hi)) (by rw [hv, itr_lt _ _ (by omega)]; congr 1; unfold wf1; rw [if_pos cq90, if_pos (Int32.not_le.mp cq108)]); refine ei_drop 9 ?_; exact h9)
  have E1 : ∀ (v : Int32), v < 0 → wornFromF (n, w, se, sp, hr, lt, hd, sc, so, fi, wo) Z d b what = v → e_E x 36 [some (.ref 0), some (.int d), some (.int b), some (.int what), some (.int v), none, none, none, none, none] [] (mH (n, w, se, sp, hr, lt, hd, sc, so, fi, wo) (upd I 20 0, A, B, K)) := by
    intro v hv hF
    refine ei_iload X dX10_wornFrom_36 rfl ?_
    refine ei_if_ge (tgt := 44) X dX10_wornFrom_38 (by decide) (fun cq38 => ?_) (fun cq38 => ?_)
    · exact absurd (Int32.lt_of_lt_of_le hv cq38) (fun z => Int32.lt_irrefl z)
    · refine ei_iload X dX10_wornFrom_41 rfl ?_
      refine ei_ireturn X F dX10_wornFrom_43 ?_
      exact ⟨by rw [hF], _, kM_20 _ _ _ _ 0, rfl⟩
  have E0 : ∀ (dk bk : Nat), dk < 8 → bk < n → zH (Z dk) = 2 → (wornFromF (n, w, se, sp, hr, lt, hd, sc, so, fi, wo) Z d b what = if what = 0 then (wornFromQ (n, w, se, sp, hr, lt, hd, sc, so, fi, wo) (Z dk) bk).1 else if what = 1 then (wornFromQ (n, w, se, sp, hr, lt, hd, sc, so, fi, wo) (Z dk) bk).2.1 else (wornFromQ (n, w, se, sp, hr, lt, hd, sc, so, fi, wo) (Z dk) bk).2.2) → e_E x 36 [some (.ref 0), some (.int (nI dk)), some (.int (nI bk)), some (.int what), some (.int 0), none, none, none, none, none] [] (mH (n, w, se, sp, hr, lt, hd, sc, so, fi, wo) (upd I 20 0, A, B, K)) := by
    intro dk bk hdk hbk hz hF
    refine ei_iload X dX10_wornFrom_36 rfl ?_
    refine ei_if_ge (tgt := 44) X dX10_wornFrom_38 (by decide) (fun cq38 => ?_) (fun cq38 => ?_)
    · refine ei_iconst (v := 0) X dX10_wornFrom_44 rfl ?_
      refine ei_istore X dX10_wornFrom_45 (Nat.le_of_ble_eq_true rfl) rfl ?_
      refine ei_bipush (v := -4) X dX10_wornFrom_47 rfl ?_
      refine ei_istore X dX10_wornFrom_49 (Nat.le_of_ble_eq_true rfl) rfl ?_
      refine ei_bipush (v := -4) X dX10_wornFrom_51 rfl ?_
      refine ei_istore X dX10_wornFrom_53 (Nat.le_of_ble_eq_true rfl) rfl ?_
      refine ei_aload_n X dX10_wornFrom_55 rfl rfl ?_
      refine ei_callI X ml_RX10_225 dX10_wornFrom_56 (ct_X10_think _ _ _ _ _ _ _ _ _ _ _ _ _ _ _) rfl rfl (by decide) (by decide) rfl (Nat.le_of_ble_eq_true rfl) (fun r h2 hp => ?_)
      obtain ⟨rfl, J56, h56, rfl⟩ := hp
      refine ei_iconst (v := 0) X dX10_wornFrom_59 rfl ?_
      refine ei_istore X dX10_wornFrom_60 (Nat.le_of_ble_eq_true rfl) rfl ?_
      have hJ : ∀ k, k = 11 ∨ k = 12 ∨ k = 30 → J56 k = I k := (fun k hk => by rw [h56 k (by omega) (by omega), pk_un (by omega)])
      refine ei_drop 4 ?_
      exact L0 dk bk hdk (by omega) hz hF 101 0 (0, -4, -4) J56 J56 (by omega) (by omega) hJ rfl
    · first | exact absurd cq38 (by decide) | exact absurd (by decide) cq38
  refine ei_aload_n X dX10_wornFrom_0 rfl rfl ?_
  refine ei_iconst (v := 0) X dX10_wornFrom_1 rfl ?_
  refine ei_puti X fp_RX10_78 dX10_wornFrom_2 rfl (Nat.le_of_ble_eq_true rfl) (pm_20 _ _ _ _ _ _ _ _ _ _ _ _ _ _ _ _) ?_
  refine ei_aload_n X dX10_wornFrom_5 rfl rfl ?_
  refine ei_iload_n X dX10_wornFrom_6 rfl rfl ?_
  refine ei_callI1 X ml_RX10_193 dX10_wornFrom_7 (ct_X10_isBulb _ _ _ _ _ _ _ _ _ _ _ _ _ _ _ _ (by first | omega | assumption)) rfl rfl (by decide) (by decide) rfl (Nat.le_of_ble_eq_true rfl) ?_
  refine ei_ifz_eq (tgt := 33) X dX10_wornFrom_10 (by decide) (fun cq10 => ?_) (fun cq10 => ?_)
  · refine ei_iconst (v := -1) X dX10_wornFrom_33 rfl ?_
    refine ei_istore X dX10_wornFrom_34 (Nat.le_of_ble_eq_true rfl) rfl ?_
    exact E1 (-1) (by decide) (by unfold wornFromF; rw [if_neg (fun z => by simp only [sN, sW, sE, sP, sH, sL, sD, sC, sO, sG, sR] at z; rw [cq10] at z; exact Bool.false_ne_true z.1)])
  · refine ei_iload_n X dX10_wornFrom_13 rfl rfl ?_
    refine ei_i2l X dX10_wornFrom_14 ?_
    refine ei_lconst (v := 0) X dX10_wornFrom_15 rfl ?_
    refine ei_ldc2 X cw_RX10_267 dX10_wornFrom_16 ?_
    refine ei_callT1 X ml_RX10_84 dX10_wornFrom_19 (ct_X10_in _ _ _ _) rfl rfl (by decide) (by decide) (Nat.le_of_ble_eq_true rfl) ?_
    rw [in_0_2]
    refine ei_ifz_eq (tgt := 33) X dX10_wornFrom_22 (by decide) (fun cq22 => ?_) (fun cq22 => ?_)
    · refine ei_iconst (v := -1) X dX10_wornFrom_33 rfl ?_
      refine ei_istore X dX10_wornFrom_34 (Nat.le_of_ble_eq_true rfl) rfl ?_
      exact E1 (-1) (by decide) (by unfold wornFromF; rw [if_neg (fun z => by rw [cq22] at z; exact Bool.false_ne_true z.2)])
    · refine ei_aload_n X dX10_wornFrom_25 rfl rfl ?_
      refine ei_iload_n X dX10_wornFrom_26 rfl rfl ?_
      refine ei_callI1 X ml_RX10_219 dX10_wornFrom_27 (ct_X10_wrongRow _ _ _ _ _ _ _ _ _ _ _ _ _ _ _ Z _ hR) rfl rfl (by decide) (by decide) rfl (Nat.le_of_ble_eq_true rfl) ?_
      refine ei_goto (tgt := 34) X dX10_wornFrom_30 (by decide) ?_
      refine ei_istore X dX10_wornFrom_34 (Nat.le_of_ble_eq_true rfl) rfl ?_
      have hwF : wornFromF (n, w, se, sp, hr, lt, hd, sc, so, fi, wo) Z d b what = if wrongRowF Z d = 0 then (if what = 0 then (wornFromQ (n, w, se, sp, hr, lt, hd, sc, so, fi, wo) (Z (nc d)) (nc b)).1 else if what = 1 then (wornFromQ (n, w, se, sp, hr, lt, hd, sc, so, fi, wo) (Z (nc d)) (nc b)).2.1 else (wornFromQ (n, w, se, sp, hr, lt, hd, sc, so, fi, wo) (Z (nc d)) (nc b)).2.2) else wrongRowF Z d := (by unfold wornFromF; rw [if_pos ⟨cq10, cq22⟩])
      by_cases w0 : wrongRowF Z d = 0
      · (obtain ⟨dk, hdk, hdd, hz⟩ := wrongRow_0 w0); (obtain ⟨bk, hbk, hb⟩ := (hasF_iff (by omega)).mp cq10); (rw [w0] at hwF ⊢); (rw [if_pos rfl, hdd, hb, nc_nI (by omega), nc_nI (by omega), ← hdd, ← hb] at hwF); (have h9 := E0 dk bk hdk hbk hz hwF); (rw [← hdd, ← hb] at h9); exact h9
      · exact E1 _ (wrongRow_n.mpr w0) (by rw [hwF, if_neg w0])
def judgeN (S : St) (z : Sh) : Nat := firstN (fun k => !(skipF z k || decide (zC z k = popF (sW (hoursS S k))))) 0 (zN z)
def judgeF (S : St) (Z : Nat → Sh) (d : Int32) : Int32 := if wrongRowF Z d = 0 then (if judgeN S (Z (nc d)) = zN (Z (nc d)) then -4 else nI (judgeN S (Z (nc d)))) else wrongRowF Z d
set_option maxRecDepth 100000 in
set_option maxHeartbeats 4000000 in
theorem ct_X10_judge (n : Nat) (w se sp hr lt hd sc : Int32) (so fi wo : Nat → Int32) (I : Nat → Int32) (A : Nat → Nat → Int32) (B : Nat → Nat → Int64) (K : Value) (Z : Nat → Sh) (d : Int32) (h_S : Good (n, w, se, sp, hr, lt, hd, sc, so, fi, wo)) (h_M : mI (I, A, B, K)) (h_R : RS Z (I, A, B, K)) : e_Ct yX10_judge cX10_judge 5 (some .int) 6 [.ref 0, .int d] (mH (n, w, se, sp, hr, lt, hd, sc, so, fi, wo) (I, A, B, K)) (mP (some (.int (judgeF (n, w, se, sp, hr, lt, hd, sc, so, fi, wo) Z d))) (n, w, se, sp, hr, lt, hd, sc, so, fi, wo) (I, A, B, K)) := by
  refine e_open RX10 rfl (by decide +kernel) rfl (fun _ => Nat.le_of_ble_eq_true rfl) (fun x X F => ?_)
  obtain ⟨i11, i12⟩ := h_M
  simp only at i11 i12
  have hR := RS_20 _ _ _ _ h_R 0
  have R : ∀ (dk : Nat) (v : Int32) (S2 : St) (J2 : Nat → Int32), judgeF (n, w, se, sp, hr, lt, hd, sc, so, fi, wo) Z d = v → (∀ k, k = 11 ∨ k = 12 ∨ k = 30 → J2 k = I k) → e_E x 95 [some (.ref 0), some (.int (nI dk)), none, some (.int v), none] [] (mH S2 (J2, updA A 13 (encF (n, w, se, sp, hr, lt, hd, sc, so, fi, wo)), B, .ref 13)) := by
    intro dk v S2 J2 hv hJ2
    obtain ⟨n3, w3, se3, sp3, hr3, lt3, hd3, sc3, so3, fi3, wo3⟩ := S2
    refine ei_aload_n X dX10_judge_95 rfl rfl ?_
    refine ei_callI X ml_RX10_231 dX10_judge_96 (ct_X10_again _ _ _ _ _ _ _ _ _ _ _ n w se sp hr lt hd sc so fi wo _ _ _ _ updA_on) rfl rfl (by decide) (by decide) rfl (Nat.le_of_ble_eq_true rfl) (fun r h2 hp => ?_)
    obtain ⟨rfl, J96, h96, rfl⟩ := hp
    refine ei_iload_n X dX10_judge_99 rfl rfl ?_
    refine ei_ireturn X F dX10_judge_100 ?_
    exact ⟨by rw [hv], _, kM_13 (fun k hk => by rw [h96 k (by omega) (by omega)]; exact hJ2 k hk), rfl⟩
  have R9 : ∀ (dk a i : Nat) (S2 : St) (J2 : Nat → Int32), dk < 8 → zH (Z dk) = 2 → judgeF (n, w, se, sp, hr, lt, hd, sc, so, fi, wo) Z d = nI a → a < 200 → i < 200 → (∀ k, k = 11 ∨ k = 12 ∨ k = 30 → J2 k = I k) → e_E x 27 [some (.ref 0), some (.int (nI dk)), none, some (.int (nI a)), some (.int (nI i))] [] (mH S2 (J2, updA A 13 (encF (n, w, se, sp, hr, lt, hd, sc, so, fi, wo)), B, .ref 13)) := by
    intro dk a i S2 J2 hdk hz ha ha2 hi hJ2
    obtain ⟨n3, w3, se3, sp3, hr3, lt3, hd3, sc3, so3, fi3, wo3⟩ := S2
    have hRJ : RS Z (J2, updA A 13 (encF (n, w, se, sp, hr, lt, hd, sc, so, fi, wo)), B, .ref 13) := RS_k h_R (kM_13 hJ2)
    obtain ⟨z7, z8, z9⟩ := (hRJ dk hdk).2.2.2 hz
    have hsz := ((hRJ dk hdk).1.2.2 hz).2
    simp only at z7 z8 z9
    refine ei_iload X dX10_judge_27 rfl ?_
    refine ei_aload_n X dX10_judge_29 rfl rfl ?_
    refine ei_getf X fl_RX10_38 dX10_judge_30 rfl rfl ?_
    refine ei_iload_n X dX10_judge_33 rfl rfl ?_
    refine ei_iaload_n X dX10_judge_34 rfl (by first | omega | assumption) (by decide) ?_
    rw [z8]
    refine ei_icmpn_ge (tgt := 95) X dX10_judge_35 (by decide) (by first | omega | assumption) (by first | omega | assumption) (fun cq35 => ?_) (fun cq35 => ?_)
    · refine ei_drop 4 ?_
      exact R dk _ _ _ ha hJ2
    · refine ei_iload_n X dX10_judge_38 rfl rfl ?_
      refine ei_if_ge (tgt := 95) X dX10_judge_39 (by decide) (fun cq39 => ?_) (fun cq39 => ?_)
      · refine ei_drop 4 ?_
        exact R dk _ _ _ ha hJ2
      · exact absurd (nI_pos' (by omega)) cq39
  have L : ∀ (dk : Nat), dk < 8 → zH (Z dk) = 2 → (judgeF (n, w, se, sp, hr, lt, hd, sc, so, fi, wo) Z d = if judgeN (n, w, se, sp, hr, lt, hd, sc, so, fi, wo) (Z dk) = zN (Z dk) then -4 else nI (judgeN (n, w, se, sp, hr, lt, hd, sc, so, fi, wo) (Z dk))) → ∀ (m k : Nat) (J : Nat → Int32), 101 - k < m → k ≤ zN (Z dk) → (∀ k, k = 11 ∨ k = 12 ∨ k = 30 → J k = I k) → judgeN (n, w, se, sp, hr, lt, hd, sc, so, fi, wo) (Z dk) = firstN (fun k => !(skipF (Z dk) k || decide (zC (Z dk) k = popF (sW (hoursS (n, w, se, sp, hr, lt, hd, sc, so, fi, wo) k))))) k (zN (Z dk) - k) → e_E x 27 [some (.ref 0), some (.int (nI dk)), none, some (.int (-4)), some (.int (nI k))] [] (mH (hoursS (n, w, se, sp, hr, lt, hd, sc, so, fi, wo) k) (J, updA A 13 (encF (n, w, se, sp, hr, lt, hd, sc, so, fi, wo)), B, .ref 13)) := by
    intro dk hdk hz hF m
    induction m with
    | zero => intro k J hk; exact absurd hk (Nat.not_lt_zero _)
    | succ m ih =>
      intro k J hk hk2 hJ hv
      have j12 := (hJ 12 (by omega)).trans i12
      have j11 := (hJ 11 (by omega)).trans i11
      obtain ⟨w2, se2, hr2, lt2, wo2, e2⟩ := hours_ex (n, w, se, sp, hr, lt, hd, sc, so, fi, wo) k
      simp only [sN, sW, sE, sP, sH, sL, sD, sC, sO, sG, sR] at e2
      have hx := e2
      have e3 : hoursS (n, w, se, sp, hr, lt, hd, sc, so, fi, wo) (k + 1) = hourS (hoursS (n, w, se, sp, hr, lt, hd, sc, so, fi, wo) k) 1 := hours_s _ _
      have hg := good_at h_S k
      have hRJ : RS Z (J, updA A 13 (encF (n, w, se, sp, hr, lt, hd, sc, so, fi, wo)), B, .ref 13) := RS_k h_R (kM_13 hJ)
      obtain ⟨z7, z8, z9⟩ := (hRJ dk hdk).2.2.2 hz
      have hsz := ((hRJ dk hdk).1.2.2 hz).2
      simp only at z7 z8 z9
      rw [e2] at e3 hg ⊢
      refine ei_iload X dX10_judge_27 rfl ?_
      refine ei_aload_n X dX10_judge_29 rfl rfl ?_
      refine ei_getf X fl_RX10_38 dX10_judge_30 rfl rfl ?_
      refine ei_iload_n X dX10_judge_33 rfl rfl ?_
      refine ei_iaload_n X dX10_judge_34 rfl (by first | omega | assumption) (by decide) ?_
      rw [z8]
      refine ei_icmpn_ge (tgt := 95) X dX10_judge_35 (by decide) (by first | omega | assumption) (by first | omega | assumption) (fun cq35 => ?_) (fun cq35 => ?_)
      · refine ei_drop 4 ?_
        exact R dk _ _ _ (by rw [hF, hv, firstN_e cq35, if_pos (by omega)]) hJ
      · refine ei_iload_n X dX10_judge_38 rfl rfl ?_
        refine ei_if_ge (tgt := 95) X dX10_judge_39 (by decide) (fun cq39 => ?_) (fun cq39 => ?_)
        · exact absurd cq39 (by decide)
        · refine ei_aload_n X dX10_judge_42 rfl rfl ?_
          refine ei_iload_n X dX10_judge_43 rfl rfl ?_
          refine ei_iload X dX10_judge_44 rfl ?_
          refine ei_callI1 X ml_RX10_347 dX10_judge_46 (ct_X10_isSkipped _ _ _ _ _ _ _ _ _ _ _ _ _ _ _ Z dk k hdk (by omega) hz hRJ) rfl rfl (by decide) (by decide) rfl (Nat.le_of_ble_eq_true rfl) ?_
          refine ei_ifz_ne (tgt := 81) X dX10_judge_49 (by decide) (fun cq49 => ?_) (fun cq49 => ?_)
          · refine ei_bipush (v := -4) X dX10_judge_81 rfl ?_
            refine ei_istore_n X dX10_judge_83 rfl (Nat.le_of_ble_eq_true rfl) rfl ?_
            refine ei_aload_n X dX10_judge_84 rfl rfl ?_
            refine ei_callI1 X ml_RX10_134 dX10_judge_85 (ct_X10_hourOn _ _ _ _ _ _ _ _ _ _ _ _ _ _ _ hg (Or.inl j12) j11) rfl rfl (by decide) (by decide) rfl (Nat.le_of_ble_eq_true rfl) ?_
            rw [j12]
            refine ei_pop X dX10_judge_88 rfl ?_
            refine ei_iinc_n X dX10_judge_89 rfl rfl ?_
            refine ei_goto (tgt := 27) X dX10_judge_92 (by decide) ?_
            have h9 := ih (k + 1) (burnI J (hourB (n, w2, se2, sp, hr2, lt2, hd, sc, so, fi, wo2)) (wholeN w2 0 n)) (by omega) (by omega) (fun k hk => by rw [burnI_off (by omega)]; exact hJ k hk) (by rw [hv, firstN_f (by omega) (by rw [cq49]; rfl)])
            rw [e3] at h9
            exact h9
          · refine ei_aload_n X dX10_judge_52 rfl rfl ?_
            refine ei_getf X fl_RX10_41 dX10_judge_53 rfl rfl ?_
            refine ei_bipush (v := nI 100) X dX10_judge_56 rfl ?_
            refine ei_iload_n X dX10_judge_58 rfl rfl ?_
            refine ei_imul X dX10_judge_59 ?_
            rw [nI_mul]
            refine ei_iload X dX10_judge_60 rfl ?_
            refine ei_iadd X dX10_judge_62 ?_
            rw [nI_add]
            refine ei_laload_n X dX10_judge_63 rfl (by first | omega | assumption) (by decide) ?_
            rw [z9 k (by omega)]
            refine ei_aload_n X dX10_judge_64 rfl rfl ?_
            refine ei_getf X fl_RX10_88 dX10_judge_65 rfl rfl ?_
            refine ei_callT1 X ml_RX10_311 dX10_judge_68 (ct_X10_onesOf _ _ hg.2.2.2.2.2.2.2.2.1) rfl rfl (by decide) (by decide) (Nat.le_of_ble_eq_true rfl) ?_
            refine ei_i2l X dX10_judge_71 ?_
            refine ei_lcmp X dX10_judge_72 ?_
            refine ei_ifc_eq (tgt := 81) X dX10_judge_73 (by decide) (fun cq73 => ?_) (fun cq73 => ?_)
            · refine ei_bipush (v := -4) X dX10_judge_81 rfl ?_
              refine ei_istore_n X dX10_judge_83 rfl (Nat.le_of_ble_eq_true rfl) rfl ?_
              refine ei_aload_n X dX10_judge_84 rfl rfl ?_
              refine ei_callI1 X ml_RX10_134 dX10_judge_85 (ct_X10_hourOn _ _ _ _ _ _ _ _ _ _ _ _ _ _ _ hg (Or.inl j12) j11) rfl rfl (by decide) (by decide) rfl (Nat.le_of_ble_eq_true rfl) ?_
              rw [j12]
              refine ei_pop X dX10_judge_88 rfl ?_
              refine ei_iinc_n X dX10_judge_89 rfl rfl ?_
              refine ei_goto (tgt := 27) X dX10_judge_92 (by decide) ?_
              have h9 := ih (k + 1) (burnI J (hourB (n, w2, se2, sp, hr2, lt2, hd, sc, so, fi, wo2)) (wholeN w2 0 n)) (by omega) (by omega) (fun k hk => by rw [burnI_off (by omega)]; exact hJ k hk) (by rw [hv, firstN_f (by omega) (by rw [hx, decide_eq_true ((i64_eq _ _).mp cq73), Bool.or_true]; rfl)])
              rw [e3] at h9
              exact h9
            · refine ei_iload X dX10_judge_76 rfl ?_
              refine ei_goto (tgt := 83) X dX10_judge_78 (by decide) ?_
              refine ei_istore_n X dX10_judge_83 rfl (Nat.le_of_ble_eq_true rfl) rfl ?_
              refine ei_aload_n X dX10_judge_84 rfl rfl ?_
              refine ei_callI1 X ml_RX10_134 dX10_judge_85 (ct_X10_hourOn _ _ _ _ _ _ _ _ _ _ _ _ _ _ _ hg (Or.inl j12) j11) rfl rfl (by decide) (by decide) rfl (Nat.le_of_ble_eq_true rfl) ?_
              rw [j12]
              refine ei_pop X dX10_judge_88 rfl ?_
              refine ei_iinc_n X dX10_judge_89 rfl rfl ?_
              refine ei_goto (tgt := 27) X dX10_judge_92 (by decide) ?_
              exact R9 dk k (k + 1) _ _ hdk hz (by rw [hF, hv, firstN_t (by omega) (by rw [hx, cq49, decide_eq_false (fun z => cq73 ((i64_eq _ _).mpr z))]; rfl), if_neg (by omega)]) (by omega) (by omega) (fun k hk => by rw [burnI_off (by omega)]; exact hJ k hk)
  refine ei_aload_n X dX10_judge_0 rfl rfl ?_
  refine ei_iconst (v := 0) X dX10_judge_1 rfl ?_
  refine ei_puti X fp_RX10_78 dX10_judge_2 rfl (Nat.le_of_ble_eq_true rfl) (pm_20 _ _ _ _ _ _ _ _ _ _ _ _ _ _ _ _) ?_
  refine ei_aload_n X dX10_judge_5 rfl rfl ?_
  refine ei_iload_n X dX10_judge_6 rfl rfl ?_
  refine ei_callI1 X ml_RX10_219 dX10_judge_7 (ct_X10_wrongRow _ _ _ _ _ _ _ _ _ _ _ _ _ _ _ Z _ hR) rfl rfl (by decide) (by decide) rfl (Nat.le_of_ble_eq_true rfl) ?_
  refine ei_istore_n X dX10_judge_10 rfl (Nat.le_of_ble_eq_true rfl) rfl ?_
  refine ei_iload_n X dX10_judge_11 rfl rfl ?_
  refine ei_if_ge (tgt := 17) X dX10_judge_12 (by decide) (fun cq12 => ?_) (fun cq12 => ?_)
  · have w0 := wrongRow_ge.mp cq12
    obtain ⟨dk, hdk, rfl, hz⟩ := wrongRow_0 w0
    have hnc : nc (nI dk) = dk := nc_nI (by omega)
    refine ei_bipush (v := -4) X dX10_judge_17 rfl ?_
    refine ei_istore_n X dX10_judge_19 rfl (Nat.le_of_ble_eq_true rfl) rfl ?_
    refine ei_aload_n X dX10_judge_20 rfl rfl ?_
    refine ei_callI X ml_RX10_225 dX10_judge_21 (ct_X10_think _ _ _ _ _ _ _ _ _ _ _ _ _ _ _) rfl rfl (by decide) (by decide) rfl (Nat.le_of_ble_eq_true rfl) (fun r h2 hp => ?_)
    obtain ⟨rfl, J21, h21, rfl⟩ := hp
    refine ei_iconst (v := 0) X dX10_judge_24 rfl ?_
    refine ei_istore X dX10_judge_25 (Nat.le_of_ble_eq_true rfl) rfl ?_
    refine ei_drop 2 ?_
    exact L dk hdk hz (by unfold judgeF; rw [if_pos w0, hnc]) 102 0 _ (by omega) (by omega) (fun k hk => by rw [h21 k (by omega) (by omega), pk_un (by omega)]) rfl
  · refine ei_iload_n X dX10_judge_15 rfl rfl ?_
    refine ei_ireturn X F dX10_judge_16 ?_
    exact ⟨by unfold judgeF; rw [if_neg (fun z => cq12 (wrongRow_ge.mpr z))], _, kM_20 _ _ _ _ 0, rfl⟩

