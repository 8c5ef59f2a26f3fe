/-! ===== what the reference keeps of a string, and gives back ===== -/
def encF (S : St) : Nat → Int32 := fun k =>
  if k = 0 then nI (sN S) else if k = 1 then sW S else if k = 2 then sE S else if k = 3 then sP S else if k = 4 then sH S else if k = 5 then sL S else if k = 6 then sD S else if k = 7 then sC S
  else if (k - 8) % 3 = 0 then sO S ((k - 8) / 3) else if (k - 8) % 3 = 1 then sG S ((k - 8) / 3) else sR S ((k - 8) / 3)
theorem enc_8 (S : St) (b : Nat) : encF S (8 + 3 * b) = sO S b ∧ encF S (9 + 3 * b) = sG S b ∧ encF S (10 + 3 * b) = sR S b := by
  unfold encF
  refine ⟨?_, ?_, ?_⟩
  · rw [if_neg (by omega), if_neg (by omega), if_neg (by omega), if_neg (by omega), if_neg (by omega), if_neg (by omega), if_neg (by omega), if_neg (by omega), if_pos (by omega), show (8 + 3 * b - 8) / 3 = b by omega]
  · rw [if_neg (by omega), if_neg (by omega), if_neg (by omega), if_neg (by omega), if_neg (by omega), if_neg (by omega), if_neg (by omega), if_neg (by omega), if_neg (by omega), if_pos (by omega), show (9 + 3 * b - 8) / 3 = b by omega]
  · rw [if_neg (by omega), if_neg (by omega), if_neg (by omega), if_neg (by omega), if_neg (by omega), if_neg (by omega), if_neg (by omega), if_neg (by omega), if_neg (by omega), if_neg (by omega), show (10 + 3 * b - 8) / 3 = b by omega]
theorem enc_cases {S : St} {k : Nat} (hk : k < 38) (h8 : ¬ k < 8) : ∃ b, b < 10 ∧ (k = 8 + 3 * b ∨ k = 9 + 3 * b ∨ k = 10 + 3 * b) := ⟨(k - 8) / 3, by omega, by omega⟩
theorem upd_id {f : Nat → Int32} {k : Nat} : upd f k (f k) = f := by
  funext j
  by_cases h : j = k
  · subst h; exact pk_us
  · exact pk_un h
theorem updA_on {A : Nat → Nat → Int32} {c : Nat} {f : Nat → Int32} : updA A c f c = f := by simp [updA]
theorem updA_off {A : Nat → Nat → Int32} {c j : Nat} {f : Nat → Int32} (h : j ≠ c) : updA A c f j = A j := by simp [updA, h]
theorem updA_2 {A : Nat → Nat → Int32} {c : Nat} {f g : Nat → Int32} : updA (updA A c f) c g = updA A c g := by
  funext j
  by_cases h : j = c
  · subst h; rw [updA_on, updA_on]
  · rw [updA_off h, updA_off h, updA_off h]
theorem updA_id {A : Nat → Nat → Int32} {c : Nat} : updA A c (A c) = A := by
  funext j
  by_cases h : j = c
  · subst h; exact updA_on
  · exact updA_off h
theorem upd_2 {f : Nat → Int32} {k : Nat} {x y : Int32} : upd (upd f k x) k y = upd f k y := by
  funext j
  by_cases h : j = k
  · subst h; rw [pk_us, pk_us]
  · rw [pk_un h, pk_un h, pk_un h]
theorem mH_c (n : Nat) (w se sp hr lt hd sc : Int32) (so fi wo : Nat → Int32) (I : Nat → Int32) (A : Nat → Nat → Int32) (B : Nat → Nat → Int64) (K : Value) {c : Nat} (hc : c = 13 ∨ c = 14) : (mH (n, w, se, sp, hr, lt, hd, sc, so, fi, wo) (I, A, B, K))[c]? = some (.inl (0, 38, .inl (A c))) := by rcases hc with rfl | rfl <;> rfl
theorem pm_rc (n : Nat) (w se sp hr lt hd sc : Int32) (so fi wo : Nat → Int32) (I : Nat → Int32) (A : Nat → Nat → Int32) (B : Nat → Nat → Int64) (K : Value) {c : Nat} (hc : c = 13 ∨ c = 14) (g : Nat → Int32) : (mH (n, w, se, sp, hr, lt, hd, sc, so, fi, wo) (I, A, B, K)).set c (.inl (0, 38, .inl g)) = mH (n, w, se, sp, hr, lt, hd, sc, so, fi, wo) (I, updA A c g, B, K) := by rcases hc with rfl | rfl <;> rfl
set_option maxRecDepth 100000 in
set_option maxHeartbeats 4000000 in
theorem ct_X10_carry (n : Nat) (w se sp hr lt hd sc : Int32) (so fi wo : Nat → Int32) (I : Nat → Int32) (A : Nat → Nat → Int32) (B : Nat → Nat → Int64) (c p : Nat) (v : Int32) (h_c : c = 13 ∨ c = 14) (h_p : p < 38) (h_i : I 31 = nI p) : e_Ct yX10_carry cX10_carry 2 (some .int) 1 [.ref 0, .int v] (mH (n, w, se, sp, hr, lt, hd, sc, so, fi, wo) (I, A, B, .ref c)) (e_eq (some (.int (if I 32 = 0 then A c p else v))) (mH (n, w, se, sp, hr, lt, hd, sc, so, fi, wo) (upd I 31 (nI (p + 1)), (if I 32 = 0 then A else updA A c (upd (A c) p v)), B, .ref c))) := by
  refine e_open RX10 rfl (by decide +kernel) rfl (fun _ => Nat.le_of_ble_eq_true rfl) (fun x X F => ?_)
  refine ei_aload_n X dX10_carry_0 rfl rfl ?_
  refine ei_getf X fl_RX10_234 dX10_carry_1 rfl rfl ?_
  refine ei_if_eq (tgt := 17) X dX10_carry_4 (by decide) (fun cq4 => ?_) (fun cq4 => ?_)
  · refine ei_aload_n X dX10_carry_17 rfl rfl ?_
    refine ei_dup X dX10_carry_18 rfl ?_
    refine ei_getf X fl_RX10_240 dX10_carry_19 rfl rfl ?_
    refine ei_iconst (v := 1) X dX10_carry_22 rfl ?_
    refine ei_iadd X dX10_carry_23 ?_
    refine ei_puti X fp_RX10_240 dX10_carry_24 rfl (Nat.le_of_ble_eq_true rfl) (pm_31 _ _ _ _ _ _ _ _ _ _ _ _ _ _ _ _) ?_
    refine ei_aload_n X dX10_carry_27 rfl rfl ?_
    refine ei_getf X fl_RX10_237 dX10_carry_28 rfl rfl ?_
    refine ei_aload_n X dX10_carry_31 rfl rfl ?_
    refine ei_getf X fl_RX10_240 dX10_carry_32 rfl rfl ?_
    refine ei_iconst (v := 1) X dX10_carry_35 rfl ?_
    rw [pk_us, h_i, nI_1]
    refine ei_isub X dX10_carry_36 ?_
    rw [nI_pred]
    refine ei_iaload_n X dX10_carry_37 (mH_c n w se sp hr lt hd sc so fi wo _ _ _ _ h_c) (by first | omega | assumption) (by decide) ?_
    refine ei_ireturn X F dX10_carry_38 ?_
    exact ⟨by rw [if_pos cq4], by rw [if_pos cq4]⟩
  · refine ei_aload_n X dX10_carry_7 rfl rfl ?_
    refine ei_getf X fl_RX10_237 dX10_carry_8 rfl rfl ?_
    refine ei_aload_n X dX10_carry_11 rfl rfl ?_
    refine ei_getf X fl_RX10_240 dX10_carry_12 rfl rfl ?_
    rw [h_i]
    refine ei_iload_n X dX10_carry_15 rfl rfl ?_
    refine ei_iastore_n X dX10_carry_16 (mH_c n w se sp hr lt hd sc so fi wo _ _ _ _ h_c) (by first | omega | assumption) (by decide) (pm_rc n w se sp hr lt hd sc so fi wo _ _ _ _ h_c _) ?_
    refine ei_aload_n X dX10_carry_17 rfl rfl ?_
    refine ei_dup X dX10_carry_18 rfl ?_
    refine ei_getf X fl_RX10_240 dX10_carry_19 rfl rfl ?_
    refine ei_iconst (v := 1) X dX10_carry_22 rfl ?_
    refine ei_iadd X dX10_carry_23 ?_
    refine ei_puti X fp_RX10_240 dX10_carry_24 rfl (Nat.le_of_ble_eq_true rfl) (pm_31 _ _ _ _ _ _ _ _ _ _ _ _ _ _ _ _) ?_
    refine ei_aload_n X dX10_carry_27 rfl rfl ?_
    refine ei_getf X fl_RX10_237 dX10_carry_28 rfl rfl ?_
    refine ei_aload_n X dX10_carry_31 rfl rfl ?_
    refine ei_getf X fl_RX10_240 dX10_carry_32 rfl rfl ?_
    refine ei_iconst (v := 1) X dX10_carry_35 rfl ?_
    rw [pk_us, h_i, nI_1]
    refine ei_isub X dX10_carry_36 ?_
    rw [nI_pred]
    refine ei_iaload_n X dX10_carry_37 (mH_c n w se sp hr lt hd sc so fi wo _ _ _ _ h_c) (by first | omega | assumption) (by decide) ?_
    refine ei_ireturn X F dX10_carry_38 ?_
    exact ⟨by rw [if_neg cq4, updA_on, pk_us], by rw [if_neg cq4]⟩
/-- in all but the numbers of its own -/
def kC (I I' : Nat → Int32) : Prop := ∀ k, k ≠ 31 → k ≠ 32 → I' k = I k
set_option maxRecDepth 100000 in
set_option maxHeartbeats 4000000 in
theorem ct_X10_carryAll_take (n : Nat) (w se sp hr lt hd sc : Int32) (so fi wo : Nat → Int32) (I : Nat → Int32) (A : Nat → Nat → Int32) (B : Nat → Nat → Int64) (K : Value) (c : Nat) (h_c : c = 13 ∨ c = 14) : e_Ct yX10_carryAll cX10_carryAll 4 none 2 [.ref 0, .ref c, .int 1] (mH (n, w, se, sp, hr, lt, hd, sc, so, fi, wo) (I, A, B, K)) (fun r h => r = none ∧ ∃ J, kC I J ∧ h = mH (n, w, se, sp, hr, lt, hd, sc, so, fi, wo) (J, updA A c (encF (n, w, se, sp, hr, lt, hd, sc, so, fi, wo)), B, .ref c)) := by
  refine e_open RX10 rfl (by decide +kernel) rfl (fun _ => Nat.le_of_ble_eq_true rfl) (fun x X F => ?_)
  have L : ∀ (k b : Nat) (J f : Nat → Int32), 10 - b < k → b ≤ 10 → kC I J → J 31 = nI (8 + 3 * b) → J 32 = 1 → (∀ i, i < 8 + 3 * b → f i = encF (n, w, se, sp, hr, lt, hd, sc, so, fi, wo) i) → e_E x 113 [some (.ref 0), some (.ref c), some (.int 1), some (.int (nI b))] [] (mH (n, w, se, sp, hr, lt, hd, sc, so, fi, wo) (J, updA A c f, B, .ref c)) := by
    intro k
    induction k with
    | zero => intro b J f hk; exact absurd hk (Nat.not_lt_zero _)
    | succ k ih =>
      intro b J f hk hb hJ h31 h32 hf
      obtain ⟨a1, a2, a3⟩ := enc_8 (n, w, se, sp, hr, lt, hd, sc, so, fi, wo) b
      have n32 : ¬ J 32 = 0 := by rw [h32]; decide
      refine ei_iload_n X dX10_carryAll_113 rfl rfl ?_
      refine ei_bipush (v := nI 10) X dX10_carryAll_114 rfl ?_
      refine ei_icmpn_ge (tgt := 173) X dX10_carryAll_116 (by decide) (by first | omega | assumption) (by first | omega | assumption) (fun cq116 => ?_) (fun cq116 => ?_)
      · refine ei_exti (encF (n, w, se, sp, hr, lt, hd, sc, so, fi, wo)) (mH_c _ _ _ _ _ _ _ _ _ _ _ _ _ _ _ h_c) (fun j hj => by rw [updA_on]; exact hf j (by omega)) (pm_rc _ _ _ _ _ _ _ _ _ _ _ _ _ _ _ h_c _) ?_
        refine ei_vreturn X F dX10_carryAll_173 ?_
        exact ⟨rfl, J, hJ, by rw [updA_2]⟩
      · refine ei_aload_n X dX10_carryAll_119 rfl rfl ?_
        refine ei_getf X fl_RX10_7 dX10_carryAll_120 rfl rfl ?_
        refine ei_iload_n X dX10_carryAll_123 rfl rfl ?_
        refine ei_aload_n X dX10_carryAll_124 rfl rfl ?_
        refine ei_aload_n X dX10_carryAll_125 rfl rfl ?_
        refine ei_getf X fl_RX10_7 dX10_carryAll_126 rfl rfl ?_
        refine ei_iload_n X dX10_carryAll_129 rfl rfl ?_
        refine ei_iaload_n X dX10_carryAll_130 rfl (by first | omega | assumption) (by decide) ?_
        refine ei_callI1 X ml_RX10_243 dX10_carryAll_131 (ct_X10_carry _ _ _ _ _ _ _ _ _ _ _ _ _ _ c (8 + 3 * b) _ h_c (by omega) h31) rfl rfl (by decide) (by decide) rfl (Nat.le_of_ble_eq_true rfl) ?_
        rw [if_neg n32, if_neg n32, updA_on, updA_2]
        refine ei_iastore_n X dX10_carryAll_134 rfl (by first | omega | assumption) (by decide) (pm_r1 _ _ _ _ _ _ _ _ _ _ _ _ _ _ _ _) ?_
        rw [upd_id]
        refine ei_aload_n X dX10_carryAll_135 rfl rfl ?_
        refine ei_getf X fl_RX10_13 dX10_carryAll_136 rfl rfl ?_
        refine ei_iload_n X dX10_carryAll_139 rfl rfl ?_
        refine ei_aload_n X dX10_carryAll_140 rfl rfl ?_
        refine ei_aload_n X dX10_carryAll_141 rfl rfl ?_
        refine ei_getf X fl_RX10_13 dX10_carryAll_142 rfl rfl ?_
        refine ei_iload_n X dX10_carryAll_145 rfl rfl ?_
        refine ei_iaload_n X dX10_carryAll_146 rfl (by first | omega | assumption) (by decide) ?_
        refine ei_callI1 X ml_RX10_243 dX10_carryAll_147 (ct_X10_carry _ _ _ _ _ _ _ _ _ _ _ _ _ _ c (9 + 3 * b) _ h_c (by omega) (by rw [pk_us]; congr 1; omega)) rfl rfl (by decide) (by decide) rfl (Nat.le_of_ble_eq_true rfl) ?_
        rw [pk_un (by decide : (32 : Nat) ≠ 31), if_neg n32, if_neg n32, updA_on, updA_2]
        refine ei_iastore_n X dX10_carryAll_150 rfl (by first | omega | assumption) (by decide) (pm_r2 _ _ _ _ _ _ _ _ _ _ _ _ _ _ _ _) ?_
        rw [upd_id]
        refine ei_aload_n X dX10_carryAll_151 rfl rfl ?_
        refine ei_getf X fl_RX10_16 dX10_carryAll_152 rfl rfl ?_
        refine ei_iload_n X dX10_carryAll_155 rfl rfl ?_
        refine ei_aload_n X dX10_carryAll_156 rfl rfl ?_
        refine ei_aload_n X dX10_carryAll_157 rfl rfl ?_
        refine ei_getf X fl_RX10_16 dX10_carryAll_158 rfl rfl ?_
        refine ei_iload_n X dX10_carryAll_161 rfl rfl ?_
        refine ei_iaload_n X dX10_carryAll_162 rfl (by first | omega | assumption) (by decide) ?_
        refine ei_callI1 X ml_RX10_243 dX10_carryAll_163 (ct_X10_carry _ _ _ _ _ _ _ _ _ _ _ _ _ _ c (10 + 3 * b) _ h_c (by omega) (by rw [pk_us]; congr 1; omega)) rfl rfl (by decide) (by decide) rfl (Nat.le_of_ble_eq_true rfl) ?_
        rw [pk_un (by decide : (32 : Nat) ≠ 31), pk_un (by decide : (32 : Nat) ≠ 31), if_neg n32, if_neg n32, updA_on, updA_2]
        refine ei_iastore_n X dX10_carryAll_166 rfl (by first | omega | assumption) (by decide) (pm_r3 _ _ _ _ _ _ _ _ _ _ _ _ _ _ _ _) ?_
        rw [upd_id]
        refine ei_iinc_n X dX10_carryAll_167 rfl rfl ?_
        refine ei_goto (tgt := 113) X dX10_carryAll_170 (by decide) ?_
        refine ih (b + 1) _ _ (by omega) (by omega) (fun k h1 h2 => by rw [pk_un h1, pk_un h1, pk_un h1]; exact hJ k h1 h2) (by rw [pk_us]; congr 1; omega) (by rw [pk_un (by decide), pk_un (by decide), pk_un (by decide), h32]) (fun i hi => ?_)
        by_cases q3 : i = 10 + 3 * b
        · rw [q3, pk_us, a3]
        rw [pk_un q3]
        by_cases q2 : i = 9 + 3 * b
        · rw [q2, pk_us, a2]
        rw [pk_un q2]
        by_cases q1 : i = 8 + 3 * b
        · rw [q1, pk_us, a1]
        rw [pk_un q1]
        exact hf i (by omega)
  have n32 : ∀ v, ¬ upd (upd I 32 1) 31 v 32 = 0 := fun v => by rw [pk_un (by decide), pk_us]; decide
  refine ei_aload_n X dX10_carryAll_0 rfl rfl ?_
  refine ei_aload_n X dX10_carryAll_1 rfl rfl ?_
  refine ei_puta X fp_RX10_237 dX10_carryAll_2 rfl (Nat.le_of_ble_eq_true rfl) ⟨_, rfl⟩ (pm_33 _ _ _ _ _ _ _ _ _ _ _ _ _ _ _ _) ?_
  refine ei_aload_n X dX10_carryAll_5 rfl rfl ?_
  refine ei_iload_n X dX10_carryAll_6 rfl rfl ?_
  refine ei_putz X fp_RX10_234 dX10_carryAll_7 rfl (Nat.le_of_ble_eq_true rfl) (by decide) (pm_32 _ _ _ _ _ _ _ _ _ _ _ _ _ _ _ _) ?_
  refine ei_aload_n X dX10_carryAll_10 rfl rfl ?_
  refine ei_iconst (v := 0) X dX10_carryAll_11 rfl ?_
  refine ei_puti X fp_RX10_240 dX10_carryAll_12 rfl (Nat.le_of_ble_eq_true rfl) (pm_31 _ _ _ _ _ _ _ _ _ _ _ _ _ _ _ _) ?_
  refine ei_aload_n X dX10_carryAll_15 rfl rfl ?_
  refine ei_aload_n X dX10_carryAll_16 rfl rfl ?_
  refine ei_aload_n X dX10_carryAll_17 rfl rfl ?_
  refine ei_getf X fl_RX10_81 dX10_carryAll_18 rfl rfl ?_
  refine ei_callI1 X ml_RX10_243 dX10_carryAll_21 (ct_X10_carry _ _ _ _ _ _ _ _ _ _ _ _ _ _ c 0 _ h_c (by omega) pk_us) rfl rfl (by decide) (by decide) rfl (Nat.le_of_ble_eq_true rfl) ?_
  rw [if_neg (n32 _), if_neg (n32 _), upd_2]
  refine ei_puti X fp_RX10_81 dX10_carryAll_24 rfl (Nat.le_of_ble_eq_true rfl) (pm_0 _ _ _ _ _ _ _ _ _ _ _ _ _ _ _ _) ?_
  refine ei_aload_n X dX10_carryAll_27 rfl rfl ?_
  refine ei_aload_n X dX10_carryAll_28 rfl rfl ?_
  refine ei_aload_n X dX10_carryAll_29 rfl rfl ?_
  refine ei_getf X fl_RX10_88 dX10_carryAll_30 rfl rfl ?_
  refine ei_callI1 X ml_RX10_243 dX10_carryAll_33 (ct_X10_carry _ _ _ _ _ _ _ _ _ _ _ _ _ _ c 1 _ h_c (by omega) pk_us) rfl rfl (by decide) (by decide) rfl (Nat.le_of_ble_eq_true rfl) ?_
  rw [if_neg (n32 _), if_neg (n32 _), upd_2, updA_on, updA_2]
  refine ei_puti X fp_RX10_88 dX10_carryAll_36 rfl (Nat.le_of_ble_eq_true rfl) (pm_4 _ _ _ _ _ _ _ _ _ _ _ _ _ _ _ _) ?_
  refine ei_aload_n X dX10_carryAll_39 rfl rfl ?_
  refine ei_aload_n X dX10_carryAll_40 rfl rfl ?_
  refine ei_aload_n X dX10_carryAll_41 rfl rfl ?_
  refine ei_getf X fl_RX10_95 dX10_carryAll_42 rfl rfl ?_
  refine ei_callI1 X ml_RX10_243 dX10_carryAll_45 (ct_X10_carry _ _ _ _ _ _ _ _ _ _ _ _ _ _ c 2 _ h_c (by omega) pk_us) rfl rfl (by decide) (by decide) rfl (Nat.le_of_ble_eq_true rfl) ?_
  rw [if_neg (n32 _), if_neg (n32 _), upd_2, updA_on, updA_2]
  refine ei_puti X fp_RX10_95 dX10_carryAll_48 rfl (Nat.le_of_ble_eq_true rfl) (pm_5 _ _ _ _ _ _ _ _ _ _ _ _ _ _ _ _) ?_
  refine ei_aload_n X dX10_carryAll_51 rfl rfl ?_
  refine ei_aload_n X dX10_carryAll_52 rfl rfl ?_
  refine ei_aload_n X dX10_carryAll_53 rfl rfl ?_
  refine ei_getf X fl_RX10_19 dX10_carryAll_54 rfl rfl ?_
  refine ei_callI1 X ml_RX10_243 dX10_carryAll_57 (ct_X10_carry _ _ _ _ _ _ _ _ _ _ _ _ _ _ c 3 _ h_c (by omega) pk_us) rfl rfl (by decide) (by decide) rfl (Nat.le_of_ble_eq_true rfl) ?_
  rw [if_neg (n32 _), if_neg (n32 _), upd_2, updA_on, updA_2]
  refine ei_puti X fp_RX10_19 dX10_carryAll_60 rfl (Nat.le_of_ble_eq_true rfl) (pm_6 _ _ _ _ _ _ _ _ _ _ _ _ _ _ _ _) ?_
  refine ei_aload_n X dX10_carryAll_63 rfl rfl ?_
  refine ei_aload_n X dX10_carryAll_64 rfl rfl ?_
  refine ei_aload_n X dX10_carryAll_65 rfl rfl ?_
  refine ei_getf X fl_RX10_105 dX10_carryAll_66 rfl rfl ?_
  refine ei_callI1 X ml_RX10_243 dX10_carryAll_69 (ct_X10_carry _ _ _ _ _ _ _ _ _ _ _ _ _ _ c 4 _ h_c (by omega) pk_us) rfl rfl (by decide) (by decide) rfl (Nat.le_of_ble_eq_true rfl) ?_
  rw [if_neg (n32 _), if_neg (n32 _), upd_2, updA_on, updA_2]
  refine ei_puti X fp_RX10_105 dX10_carryAll_72 rfl (Nat.le_of_ble_eq_true rfl) (pm_7 _ _ _ _ _ _ _ _ _ _ _ _ _ _ _ _) ?_
  refine ei_aload_n X dX10_carryAll_75 rfl rfl ?_
  refine ei_aload_n X dX10_carryAll_76 rfl rfl ?_
  refine ei_aload_n X dX10_carryAll_77 rfl rfl ?_
  refine ei_getf X fl_RX10_131 dX10_carryAll_78 rfl rfl ?_
  refine ei_callI1 X ml_RX10_243 dX10_carryAll_81 (ct_X10_carry _ _ _ _ _ _ _ _ _ _ _ _ _ _ c 5 _ h_c (by omega) pk_us) rfl rfl (by decide) (by decide) rfl (Nat.le_of_ble_eq_true rfl) ?_
  rw [if_neg (n32 _), if_neg (n32 _), upd_2, updA_on, updA_2]
  refine ei_puti X fp_RX10_131 dX10_carryAll_84 rfl (Nat.le_of_ble_eq_true rfl) (pm_8 _ _ _ _ _ _ _ _ _ _ _ _ _ _ _ _) ?_
  refine ei_aload_n X dX10_carryAll_87 rfl rfl ?_
  refine ei_aload_n X dX10_carryAll_88 rfl rfl ?_
  refine ei_aload_n X dX10_carryAll_89 rfl rfl ?_
  refine ei_getf X fl_RX10_149 dX10_carryAll_90 rfl rfl ?_
  refine ei_callI1 X ml_RX10_243 dX10_carryAll_93 (ct_X10_carry _ _ _ _ _ _ _ _ _ _ _ _ _ _ c 6 _ h_c (by omega) pk_us) rfl rfl (by decide) (by decide) rfl (Nat.le_of_ble_eq_true rfl) ?_
  rw [if_neg (n32 _), if_neg (n32 _), upd_2, updA_on, updA_2]
  refine ei_puti X fp_RX10_149 dX10_carryAll_96 rfl (Nat.le_of_ble_eq_true rfl) (pm_9 _ _ _ _ _ _ _ _ _ _ _ _ _ _ _ _) ?_
  refine ei_aload_n X dX10_carryAll_99 rfl rfl ?_
  refine ei_aload_n X dX10_carryAll_100 rfl rfl ?_
  refine ei_aload_n X dX10_carryAll_101 rfl rfl ?_
  refine ei_getf X fl_RX10_142 dX10_carryAll_102 rfl rfl ?_
  refine ei_callI1 X ml_RX10_243 dX10_carryAll_105 (ct_X10_carry _ _ _ _ _ _ _ _ _ _ _ _ _ _ c 7 _ h_c (by omega) pk_us) rfl rfl (by decide) (by decide) rfl (Nat.le_of_ble_eq_true rfl) ?_
  rw [if_neg (n32 _), if_neg (n32 _), upd_2, updA_on, updA_2]
  refine ei_puti X fp_RX10_142 dX10_carryAll_108 rfl (Nat.le_of_ble_eq_true rfl) (pm_10 _ _ _ _ _ _ _ _ _ _ _ _ _ _ _ _) ?_
  refine ei_iconst (v := 0) X dX10_carryAll_111 rfl ?_
  refine ei_istore_n X dX10_carryAll_112 rfl (Nat.le_of_ble_eq_true rfl) rfl ?_
  refine L 11 0 _ _ (by omega) (by omega) (fun k h1 h2 => by rw [pk_un h1, pk_un h2]) pk_us (by rw [pk_un (by decide), pk_us]) (fun i hi => ?_)
  have hi8 : i = 0 ∨ i = 1 ∨ i = 2 ∨ i = 3 ∨ i = 4 ∨ i = 5 ∨ i = 6 ∨ i = 7 := by omega
  rcases hi8 with rfl | rfl | rfl | rfl | rfl | rfl | rfl | rfl <;> simp [upd, encF, sN, sW, sE, sP, sH, sL, sD, sC, sO, sG, sR]
set_option maxRecDepth 100000 in
set_option maxHeartbeats 4000000 in
theorem ct_X10_carryAll_back (n : Nat) (w se sp hr lt hd sc : Int32) (so fi wo : Nat → Int32) (n2 : Nat) (w2 se2 sp2 hr2 lt2 hd2 sc2 : Int32) (so2 fi2 wo2 : Nat → Int32) (I : Nat → Int32) (A : Nat → Nat → Int32) (B : Nat → Nat → Int64) (K : Value) (c : Nat) (h_c : c = 13 ∨ c = 14) (h_f : A c = encF (n2, w2, se2, sp2, hr2, lt2, hd2, sc2, so2, fi2, wo2)) : e_Ct yX10_carryAll cX10_carryAll 4 none 2 [.ref 0, .ref c, .int 0] (mH (n, w, se, sp, hr, lt, hd, sc, so, fi, wo) (I, A, B, K)) (fun r h => r = none ∧ ∃ J, kC I J ∧ h = mH (n2, w2, se2, sp2, hr2, lt2, hd2, sc2, so2, fi2, wo2) (J, A, B, .ref c)) := by
  refine e_open RX10 rfl (by decide +kernel) rfl (fun _ => Nat.le_of_ble_eq_true rfl) (fun x X F => ?_)
  have L : ∀ (k b : Nat) (J so3 fi3 wo3 : Nat → Int32), 10 - b < k → b ≤ 10 → kC I J → J 31 = nI (8 + 3 * b) → J 32 = 0 → (∀ i, i < b → so3 i = so2 i ∧ fi3 i = fi2 i ∧ wo3 i = wo2 i) → e_E x 113 [some (.ref 0), some (.ref c), some (.int 0), some (.int (nI b))] [] (mH (n2, w2, se2, sp2, hr2, lt2, hd2, sc2, so3, fi3, wo3) (J, A, B, .ref c)) := by
    intro k
    induction k with
    | zero => intro b J so3 fi3 wo3 hk; exact absurd hk (Nat.not_lt_zero _)
    | succ k ih =>
      intro b J so3 fi3 wo3 hk hb hJ h31 h32 hf
      obtain ⟨a1, a2, a3⟩ := enc_8 (n2, w2, se2, sp2, hr2, lt2, hd2, sc2, so2, fi2, wo2) b
      refine ei_iload_n X dX10_carryAll_113 rfl rfl ?_
      refine ei_bipush (v := nI 10) X dX10_carryAll_114 rfl ?_
      refine ei_icmpn_ge (tgt := 173) X dX10_carryAll_116 (by decide) (by first | omega | assumption) (by first | omega | assumption) (fun cq116 => ?_) (fun cq116 => ?_)
      · refine ei_exti so2 rfl (fun j hj => (hf j (by omega)).1) (pm_r1 _ _ _ _ _ _ _ _ _ _ _ _ _ _ _ _) ?_
        refine ei_exti fi2 rfl (fun j hj => (hf j (by omega)).2.1) (pm_r2 _ _ _ _ _ _ _ _ _ _ _ _ _ _ _ _) ?_
        refine ei_exti wo2 rfl (fun j hj => (hf j (by omega)).2.2) (pm_r3 _ _ _ _ _ _ _ _ _ _ _ _ _ _ _ _) ?_
        refine ei_vreturn X F dX10_carryAll_173 ?_
        exact ⟨rfl, J, hJ, rfl⟩
      · refine ei_aload_n X dX10_carryAll_119 rfl rfl ?_
        refine ei_getf X fl_RX10_7 dX10_carryAll_120 rfl rfl ?_
        refine ei_iload_n X dX10_carryAll_123 rfl rfl ?_
        refine ei_aload_n X dX10_carryAll_124 rfl rfl ?_
        refine ei_aload_n X dX10_carryAll_125 rfl rfl ?_
        refine ei_getf X fl_RX10_7 dX10_carryAll_126 rfl rfl ?_
        refine ei_iload_n X dX10_carryAll_129 rfl rfl ?_
        refine ei_iaload_n X dX10_carryAll_130 rfl (by first | omega | assumption) (by decide) ?_
        refine ei_callI1 X ml_RX10_243 dX10_carryAll_131 (ct_X10_carry _ _ _ _ _ _ _ _ _ _ _ _ _ _ c (8 + 3 * b) _ h_c (by omega) h31) rfl rfl (by decide) (by decide) rfl (Nat.le_of_ble_eq_true rfl) ?_
        rw [if_pos h32, if_pos h32, h_f, a1]
        refine ei_iastore_n X dX10_carryAll_134 rfl (by first | omega | assumption) (by decide) (pm_r1 _ _ _ _ _ _ _ _ _ _ _ _ _ _ _ _) ?_
        refine ei_aload_n X dX10_carryAll_135 rfl rfl ?_
        refine ei_getf X fl_RX10_13 dX10_carryAll_136 rfl rfl ?_
        refine ei_iload_n X dX10_carryAll_139 rfl rfl ?_
        refine ei_aload_n X dX10_carryAll_140 rfl rfl ?_
        refine ei_aload_n X dX10_carryAll_141 rfl rfl ?_
        refine ei_getf X fl_RX10_13 dX10_carryAll_142 rfl rfl ?_
        refine ei_iload_n X dX10_carryAll_145 rfl rfl ?_
        refine ei_iaload_n X dX10_carryAll_146 rfl (by first | omega | assumption) (by decide) ?_
        refine ei_callI1 X ml_RX10_243 dX10_carryAll_147 (ct_X10_carry _ _ _ _ _ _ _ _ _ _ _ _ _ _ c (9 + 3 * b) _ h_c (by omega) (by rw [pk_us]; congr 1; omega)) rfl rfl (by decide) (by decide) rfl (Nat.le_of_ble_eq_true rfl) ?_
        rw [pk_un (by decide : (32 : Nat) ≠ 31), if_pos h32, if_pos h32, h_f, a2]
        refine ei_iastore_n X dX10_carryAll_150 rfl (by first | omega | assumption) (by decide) (pm_r2 _ _ _ _ _ _ _ _ _ _ _ _ _ _ _ _) ?_
        refine ei_aload_n X dX10_carryAll_151 rfl rfl ?_
        refine ei_getf X fl_RX10_16 dX10_carryAll_152 rfl rfl ?_
        refine ei_iload_n X dX10_carryAll_155 rfl rfl ?_
        refine ei_aload_n X dX10_carryAll_156 rfl rfl ?_
        refine ei_aload_n X dX10_carryAll_157 rfl rfl ?_
        refine ei_getf X fl_RX10_16 dX10_carryAll_158 rfl rfl ?_
        refine ei_iload_n X dX10_carryAll_161 rfl rfl ?_
        refine ei_iaload_n X dX10_carryAll_162 rfl (by first | omega | assumption) (by decide) ?_
        refine ei_callI1 X ml_RX10_243 dX10_carryAll_163 (ct_X10_carry _ _ _ _ _ _ _ _ _ _ _ _ _ _ c (10 + 3 * b) _ h_c (by omega) (by rw [pk_us]; congr 1; omega)) rfl rfl (by decide) (by decide) rfl (Nat.le_of_ble_eq_true rfl) ?_
        rw [pk_un (by decide : (32 : Nat) ≠ 31), pk_un (by decide : (32 : Nat) ≠ 31), if_pos h32, if_pos h32, h_f, a3]
        refine ei_iastore_n X dX10_carryAll_166 rfl (by first | omega | assumption) (by decide) (pm_r3 _ _ _ _ _ _ _ _ _ _ _ _ _ _ _ _) ?_
        refine ei_iinc_n X dX10_carryAll_167 rfl rfl ?_
        refine ei_goto (tgt := 113) X dX10_carryAll_170 (by decide) ?_
        refine ih (b + 1) _ _ _ _ (by omega) (by omega) (fun k h1 h2 => by rw [pk_un h1, pk_un h1, pk_un h1]; exact hJ k h1 h2) (by rw [pk_us]; congr 1; omega) (by rw [pk_un (by decide), pk_un (by decide), pk_un (by decide), h32]) (fun i hi => ?_)
        by_cases q : i = b
        · rw [q, pk_us, pk_us, pk_us]; exact ⟨rfl, rfl, rfl⟩
        · rw [pk_un q, pk_un q, pk_un q]; exact hf i (by omega)
  have z32 : ∀ v, upd (upd I 32 0) 31 v 32 = 0 := fun v => by rw [pk_un (by decide), pk_us]
  refine ei_aload_n X dX10_carryAll_0 rfl rfl ?_
  refine ei_aload_n X dX10_carryAll_1 rfl rfl ?_
  refine ei_puta X fp_RX10_237 dX10_carryAll_2 rfl (Nat.le_of_ble_eq_true rfl) ⟨_, rfl⟩ (pm_33 _ _ _ _ _ _ _ _ _ _ _ _ _ _ _ _) ?_
  refine ei_aload_n X dX10_carryAll_5 rfl rfl ?_
  refine ei_iload_n X dX10_carryAll_6 rfl rfl ?_
  refine ei_putz X fp_RX10_234 dX10_carryAll_7 rfl (Nat.le_of_ble_eq_true rfl) (by decide) (pm_32 _ _ _ _ _ _ _ _ _ _ _ _ _ _ _ _) ?_
  refine ei_aload_n X dX10_carryAll_10 rfl rfl ?_
  refine ei_iconst (v := 0) X dX10_carryAll_11 rfl ?_
  refine ei_puti X fp_RX10_240 dX10_carryAll_12 rfl (Nat.le_of_ble_eq_true rfl) (pm_31 _ _ _ _ _ _ _ _ _ _ _ _ _ _ _ _) ?_
  refine ei_aload_n X dX10_carryAll_15 rfl rfl ?_
  refine ei_aload_n X dX10_carryAll_16 rfl rfl ?_
  refine ei_aload_n X dX10_carryAll_17 rfl rfl ?_
  refine ei_getf X fl_RX10_81 dX10_carryAll_18 rfl rfl ?_
  refine ei_callI1 X ml_RX10_243 dX10_carryAll_21 (ct_X10_carry _ _ _ _ _ _ _ _ _ _ _ _ _ _ c 0 _ h_c (by omega) pk_us) rfl rfl (by decide) (by decide) rfl (Nat.le_of_ble_eq_true rfl) ?_
  rw [if_pos (z32 _), if_pos (z32 _), upd_2, h_f, show encF (n2, w2, se2, sp2, hr2, lt2, hd2, sc2, so2, fi2, wo2) 0 = nI n2 from rfl]
  refine ei_puti X fp_RX10_81 dX10_carryAll_24 rfl (Nat.le_of_ble_eq_true rfl) (pm_0 _ _ _ _ _ _ _ _ _ _ _ _ _ _ _ _) ?_
  refine ei_aload_n X dX10_carryAll_27 rfl rfl ?_
  refine ei_aload_n X dX10_carryAll_28 rfl rfl ?_
  refine ei_aload_n X dX10_carryAll_29 rfl rfl ?_
  refine ei_getf X fl_RX10_88 dX10_carryAll_30 rfl rfl ?_
  refine ei_callI1 X ml_RX10_243 dX10_carryAll_33 (ct_X10_carry _ _ _ _ _ _ _ _ _ _ _ _ _ _ c 1 _ h_c (by omega) pk_us) rfl rfl (by decide) (by decide) rfl (Nat.le_of_ble_eq_true rfl) ?_
  rw [if_pos (z32 _), if_pos (z32 _), upd_2, h_f, show encF (n2, w2, se2, sp2, hr2, lt2, hd2, sc2, so2, fi2, wo2) 1 = w2 from rfl]
  refine ei_puti X fp_RX10_88 dX10_carryAll_36 rfl (Nat.le_of_ble_eq_true rfl) (pm_4 _ _ _ _ _ _ _ _ _ _ _ _ _ _ _ _) ?_
  refine ei_aload_n X dX10_carryAll_39 rfl rfl ?_
  refine ei_aload_n X dX10_carryAll_40 rfl rfl ?_
  refine ei_aload_n X dX10_carryAll_41 rfl rfl ?_
  refine ei_getf X fl_RX10_95 dX10_carryAll_42 rfl rfl ?_
  refine ei_callI1 X ml_RX10_243 dX10_carryAll_45 (ct_X10_carry _ _ _ _ _ _ _ _ _ _ _ _ _ _ c 2 _ h_c (by omega) pk_us) rfl rfl (by decide) (by decide) rfl (Nat.le_of_ble_eq_true rfl) ?_
  rw [if_pos (z32 _), if_pos (z32 _), upd_2, h_f, show encF (n2, w2, se2, sp2, hr2, lt2, hd2, sc2, so2, fi2, wo2) 2 = se2 from rfl]
  refine ei_puti X fp_RX10_95 dX10_carryAll_48 rfl (Nat.le_of_ble_eq_true rfl) (pm_5 _ _ _ _ _ _ _ _ _ _ _ _ _ _ _ _) ?_
  refine ei_aload_n X dX10_carryAll_51 rfl rfl ?_
  refine ei_aload_n X dX10_carryAll_52 rfl rfl ?_
  refine ei_aload_n X dX10_carryAll_53 rfl rfl ?_
  refine ei_getf X fl_RX10_19 dX10_carryAll_54 rfl rfl ?_
  refine ei_callI1 X ml_RX10_243 dX10_carryAll_57 (ct_X10_carry _ _ _ _ _ _ _ _ _ _ _ _ _ _ c 3 _ h_c (by omega) pk_us) rfl rfl (by decide) (by decide) rfl (Nat.le_of_ble_eq_true rfl) ?_
  rw [if_pos (z32 _), if_pos (z32 _), upd_2, h_f, show encF (n2, w2, se2, sp2, hr2, lt2, hd2, sc2, so2, fi2, wo2) 3 = sp2 from rfl]
  refine ei_puti X fp_RX10_19 dX10_carryAll_60 rfl (Nat.le_of_ble_eq_true rfl) (pm_6 _ _ _ _ _ _ _ _ _ _ _ _ _ _ _ _) ?_
  refine ei_aload_n X dX10_carryAll_63 rfl rfl ?_
  refine ei_aload_n X dX10_carryAll_64 rfl rfl ?_
  refine ei_aload_n X dX10_carryAll_65 rfl rfl ?_
  refine ei_getf X fl_RX10_105 dX10_carryAll_66 rfl rfl ?_
  refine ei_callI1 X ml_RX10_243 dX10_carryAll_69 (ct_X10_carry _ _ _ _ _ _ _ _ _ _ _ _ _ _ c 4 _ h_c (by omega) pk_us) rfl rfl (by decide) (by decide) rfl (Nat.le_of_ble_eq_true rfl) ?_
  rw [if_pos (z32 _), if_pos (z32 _), upd_2, h_f, show encF (n2, w2, se2, sp2, hr2, lt2, hd2, sc2, so2, fi2, wo2) 4 = hr2 from rfl]
  refine ei_puti X fp_RX10_105 dX10_carryAll_72 rfl (Nat.le_of_ble_eq_true rfl) (pm_7 _ _ _ _ _ _ _ _ _ _ _ _ _ _ _ _) ?_
  refine ei_aload_n X dX10_carryAll_75 rfl rfl ?_
  refine ei_aload_n X dX10_carryAll_76 rfl rfl ?_
  refine ei_aload_n X dX10_carryAll_77 rfl rfl ?_
  refine ei_getf X fl_RX10_131 dX10_carryAll_78 rfl rfl ?_
  refine ei_callI1 X ml_RX10_243 dX10_carryAll_81 (ct_X10_carry _ _ _ _ _ _ _ _ _ _ _ _ _ _ c 5 _ h_c (by omega) pk_us) rfl rfl (by decide) (by decide) rfl (Nat.le_of_ble_eq_true rfl) ?_
  rw [if_pos (z32 _), if_pos (z32 _), upd_2, h_f, show encF (n2, w2, se2, sp2, hr2, lt2, hd2, sc2, so2, fi2, wo2) 5 = lt2 from rfl]
  refine ei_puti X fp_RX10_131 dX10_carryAll_84 rfl (Nat.le_of_ble_eq_true rfl) (pm_8 _ _ _ _ _ _ _ _ _ _ _ _ _ _ _ _) ?_
  refine ei_aload_n X dX10_carryAll_87 rfl rfl ?_
  refine ei_aload_n X dX10_carryAll_88 rfl rfl ?_
  refine ei_aload_n X dX10_carryAll_89 rfl rfl ?_
  refine ei_getf X fl_RX10_149 dX10_carryAll_90 rfl rfl ?_
  refine ei_callI1 X ml_RX10_243 dX10_carryAll_93 (ct_X10_carry _ _ _ _ _ _ _ _ _ _ _ _ _ _ c 6 _ h_c (by omega) pk_us) rfl rfl (by decide) (by decide) rfl (Nat.le_of_ble_eq_true rfl) ?_
  rw [if_pos (z32 _), if_pos (z32 _), upd_2, h_f, show encF (n2, w2, se2, sp2, hr2, lt2, hd2, sc2, so2, fi2, wo2) 6 = hd2 from rfl]
  refine ei_puti X fp_RX10_149 dX10_carryAll_96 rfl (Nat.le_of_ble_eq_true rfl) (pm_9 _ _ _ _ _ _ _ _ _ _ _ _ _ _ _ _) ?_
  refine ei_aload_n X dX10_carryAll_99 rfl rfl ?_
  refine ei_aload_n X dX10_carryAll_100 rfl rfl ?_
  refine ei_aload_n X dX10_carryAll_101 rfl rfl ?_
  refine ei_getf X fl_RX10_142 dX10_carryAll_102 rfl rfl ?_
  refine ei_callI1 X ml_RX10_243 dX10_carryAll_105 (ct_X10_carry _ _ _ _ _ _ _ _ _ _ _ _ _ _ c 7 _ h_c (by omega) pk_us) rfl rfl (by decide) (by decide) rfl (Nat.le_of_ble_eq_true rfl) ?_
  rw [if_pos (z32 _), if_pos (z32 _), upd_2, h_f, show encF (n2, w2, se2, sp2, hr2, lt2, hd2, sc2, so2, fi2, wo2) 7 = sc2 from rfl]
  refine ei_puti X fp_RX10_142 dX10_carryAll_108 rfl (Nat.le_of_ble_eq_true rfl) (pm_10 _ _ _ _ _ _ _ _ _ _ _ _ _ _ _ _) ?_
  refine ei_iconst (v := 0) X dX10_carryAll_111 rfl ?_
  refine ei_istore_n X dX10_carryAll_112 rfl (Nat.le_of_ble_eq_true rfl) rfl ?_
  exact L 11 0 _ so fi wo (by omega) (by omega) (fun k h1 h2 => by rw [pk_un h1, pk_un h2]) pk_us (by rw [pk_un (by decide), pk_us]) (fun i hi => absurd hi (Nat.not_lt_zero _))
set_option maxRecDepth 100000 in
set_option maxHeartbeats 4000000 in
theorem ct_X10_think (n : Nat) (w se sp hr lt hd sc : Int32) (so fi wo : Nat → Int32) (I : Nat → Int32) (A : Nat → Nat → Int32) (B : Nat → Nat → Int64) (K : Value) : e_Ct yX10_think cX10_think 1 none 3 [.ref 0] (mH (n, w, se, sp, hr, lt, hd, sc, so, fi, wo) (I, A, B, K)) (fun r h => r = none ∧ ∃ J, kC I J ∧ h = mH (n, w, se, sp, hr, lt, hd, sc, so, fi, wo) (J, updA A 13 (encF (n, w, se, sp, hr, lt, hd, sc, so, fi, wo)), B, .ref 13)) := by
  refine e_open RX10 rfl (by decide +kernel) rfl (fun _ => Nat.le_of_ble_eq_true rfl) (fun x X F => ?_)
  refine ei_aload_n X dX10_think_0 rfl rfl ?_
  refine ei_aload_n X dX10_think_1 rfl rfl ?_
  refine ei_getf X fl_RX10_54 dX10_think_2 rfl rfl ?_
  refine ei_iconst (v := 1) X dX10_think_5 rfl ?_
  refine ei_callI X ml_RX10_246 dX10_think_6 (ct_X10_carryAll_take _ _ _ _ _ _ _ _ _ _ _ _ _ _ _ 13 (Or.inl rfl)) rfl rfl (by decide) (by decide) rfl (Nat.le_of_ble_eq_true rfl) (fun r h hp => ?_)
  obtain ⟨rfl, J, hJ, rfl⟩ := hp
  refine ei_vreturn X F dX10_think_9 ?_
  exact ⟨rfl, J, hJ, rfl⟩
set_option maxRecDepth 100000 in
set_option maxHeartbeats 4000000 in
theorem ct_X10_again (n : Nat) (w se sp hr lt hd sc : Int32) (so fi wo : Nat → Int32) (n2 : Nat) (w2 se2 sp2 hr2 lt2 hd2 sc2 : Int32) (so2 fi2 wo2 : Nat → Int32) (I : Nat → Int32) (A : Nat → Nat → Int32) (B : Nat → Nat → Int64) (K : Value) (h_f : A 13 = encF (n2, w2, se2, sp2, hr2, lt2, hd2, sc2, so2, fi2, wo2)) : e_Ct yX10_again cX10_again 1 none 3 [.ref 0] (mH (n, w, se, sp, hr, lt, hd, sc, so, fi, wo) (I, A, B, K)) (fun r h => r = none ∧ ∃ J, kC I J ∧ h = mH (n2, w2, se2, sp2, hr2, lt2, hd2, sc2, so2, fi2, wo2) (J, A, B, .ref 13)) := by
  refine e_open RX10 rfl (by decide +kernel) rfl (fun _ => Nat.le_of_ble_eq_true rfl) (fun x X F => ?_)
  refine ei_aload_n X dX10_again_0 rfl rfl ?_
  refine ei_aload_n X dX10_again_1 rfl rfl ?_
  refine ei_getf X fl_RX10_54 dX10_again_2 rfl rfl ?_
  refine ei_iconst (v := 0) X dX10_again_5 rfl ?_
  refine ei_callI X ml_RX10_246 dX10_again_6 (ct_X10_carryAll_back _ _ _ _ _ _ _ _ _ _ _ n2 w2 se2 sp2 hr2 lt2 hd2 sc2 so2 fi2 wo2 _ _ _ _ 13 (Or.inl rfl) h_f) rfl rfl (by decide) (by decide) rfl (Nat.le_of_ble_eq_true rfl) (fun r h hp => ?_)
  obtain ⟨rfl, J, hJ, rfl⟩ := hp
  refine ei_vreturn X F dX10_again_9 ?_
  exact ⟨rfl, J, hJ, rfl⟩

