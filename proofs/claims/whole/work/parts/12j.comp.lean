/-! ===== the text, as it is read by the component ===== -/
set_option maxRecDepth 100000 in
set_option maxHeartbeats 1000000 in
theorem ct_X6_digitsBehind (h : List eC) (c : Int32) : e_Ct yX6_digitsBehind cX6_digitsBehind 1 (some .int) 1 [.int c] h (e_eq (some (.int (nI (ndC c)))) h) := by
  refine e_open RX6 rfl (by decide +kernel) rfl (fun _ => Nat.le_of_ble_eq_true rfl) (fun x X F => ?_)
  refine ei_iload_n X dX6_digitsBehind_0 rfl rfl ?_
  refine ei_table [(98, 106), (99, 112), (100, 112), (101, 112), (102, 112), (103, 112), (104, 106), (105, 112), (106, 112), (107, 112), (108, 112), (109, 112), (110, 112), (111, 104), (112, 112), (113, 112), (114, 112), (115, 104), (116, 104), (117, 108), (118, 112), (119, 110)] 112 X dX6_digitsBehind_1 (by decide) (by decide) (by decide) ⟨fun cq1 => ?_, fun cq1 => ?_, fun cq1 => ?_, fun cq1 => ?_, fun cq1 => ?_, fun cq1 => ?_, fun cq1 => ?_, fun cq1 => ?_, fun cq1 => ?_, fun cq1 => ?_, fun cq1 => ?_, fun cq1 => ?_, fun cq1 => ?_, fun cq1 => ?_, fun cq1 => ?_, fun cq1 => ?_, fun cq1 => ?_, fun cq1 => ?_, fun cq1 => ?_, fun cq1 => ?_, fun cq1 => ?_, fun cq1 => ?_, trivial⟩ (fun cq1 => ?_)
  · refine ei_iconst (v := 2) X dX6_digitsBehind_106 rfl ?_
    refine ei_ireturn X F dX6_digitsBehind_107 ?_
    exact ⟨by first | (rw [cq1]; exact congrArg (fun q => some (Value.int q)) (by decide +kernel)) | (simp_all [ndC, e_tn]; done) | (exact congrArg (fun q => some (Value.int q)) (by unfold e_tn at cq1; simp only [e_tn] at cq1; obtain ⟨y98, -, -, -, -, -, y104, -, -, -, -, -, -, y111, -, -, -, y115, y116, y117, -, y119, -⟩ := cq1; unfold ndC; rw [if_neg (fun z => z.elim y111 (fun z => z.elim y115 y116)), if_neg (fun z => z.elim y98 y104), if_neg y117, if_neg y119]; rfl)), rfl⟩
  · refine ei_iconst (v := 0) X dX6_digitsBehind_112 rfl ?_
    refine ei_ireturn X F dX6_digitsBehind_113 ?_
    exact ⟨by first | (rw [cq1]; exact congrArg (fun q => some (Value.int q)) (by decide +kernel)) | (simp_all [ndC, e_tn]; done) | (exact congrArg (fun q => some (Value.int q)) (by unfold e_tn at cq1; simp only [e_tn] at cq1; obtain ⟨y98, -, -, -, -, -, y104, -, -, -, -, -, -, y111, -, -, -, y115, y116, y117, -, y119, -⟩ := cq1; unfold ndC; rw [if_neg (fun z => z.elim y111 (fun z => z.elim y115 y116)), if_neg (fun z => z.elim y98 y104), if_neg y117, if_neg y119]; rfl)), rfl⟩
  · refine ei_iconst (v := 0) X dX6_digitsBehind_112 rfl ?_
    refine ei_ireturn X F dX6_digitsBehind_113 ?_
    exact ⟨by first | (rw [cq1]; exact congrArg (fun q => some (Value.int q)) (by decide +kernel)) | (simp_all [ndC, e_tn]; done) | (exact congrArg (fun q => some (Value.int q)) (by unfold e_tn at cq1; simp only [e_tn] at cq1; obtain ⟨y98, -, -, -, -, -, y104, -, -, -, -, -, -, y111, -, -, -, y115, y116, y117, -, y119, -⟩ := cq1; unfold ndC; rw [if_neg (fun z => z.elim y111 (fun z => z.elim y115 y116)), if_neg (fun z => z.elim y98 y104), if_neg y117, if_neg y119]; rfl)), rfl⟩
  · refine ei_iconst (v := 0) X dX6_digitsBehind_112 rfl ?_
    refine ei_ireturn X F dX6_digitsBehind_113 ?_
    exact ⟨by first | (rw [cq1]; exact congrArg (fun q => some (Value.int q)) (by decide +kernel)) | (simp_all [ndC, e_tn]; done) | (exact congrArg (fun q => some (Value.int q)) (by unfold e_tn at cq1; simp only [e_tn] at cq1; obtain ⟨y98, -, -, -, -, -, y104, -, -, -, -, -, -, y111, -, -, -, y115, y116, y117, -, y119, -⟩ := cq1; unfold ndC; rw [if_neg (fun z => z.elim y111 (fun z => z.elim y115 y116)), if_neg (fun z => z.elim y98 y104), if_neg y117, if_neg y119]; rfl)), rfl⟩
  · refine ei_iconst (v := 0) X dX6_digitsBehind_112 rfl ?_
    refine ei_ireturn X F dX6_digitsBehind_113 ?_
    exact ⟨by first | (rw [cq1]; exact congrArg (fun q => some (Value.int q)) (by decide +kernel)) | (simp_all [ndC, e_tn]; done) | (exact congrArg (fun q => some (Value.int q)) (by unfold e_tn at cq1; simp only [e_tn] at cq1; obtain ⟨y98, -, -, -, -, -, y104, -, -, -, -, -, -, y111, -, -, -, y115, y116, y117, -, y119, -⟩ := cq1; unfold ndC; rw [if_neg (fun z => z.elim y111 (fun z => z.elim y115 y116)), if_neg (fun z => z.elim y98 y104), if_neg y117, if_neg y119]; rfl)), rfl⟩
  · refine ei_iconst (v := 0) X dX6_digitsBehind_112 rfl ?_
    refine ei_ireturn X F dX6_digitsBehind_113 ?_
    exact ⟨by first | (rw [cq1]; exact congrArg (fun q => some (Value.int q)) (by decide +kernel)) | (simp_all [ndC, e_tn]; done) | (exact congrArg (fun q => some (Value.int q)) (by unfold e_tn at cq1; simp only [e_tn] at cq1; obtain ⟨y98, -, -, -, -, -, y104, -, -, -, -, -, -, y111, -, -, -, y115, y116, y117, -, y119, -⟩ := cq1; unfold ndC; rw [if_neg (fun z => z.elim y111 (fun z => z.elim y115 y116)), if_neg (fun z => z.elim y98 y104), if_neg y117, if_neg y119]; rfl)), rfl⟩
  · refine ei_iconst (v := 2) X dX6_digitsBehind_106 rfl ?_
    refine ei_ireturn X F dX6_digitsBehind_107 ?_
    exact ⟨by first | (rw [cq1]; exact congrArg (fun q => some (Value.int q)) (by decide +kernel)) | (simp_all [ndC, e_tn]; done) | (exact congrArg (fun q => some (Value.int q)) (by unfold e_tn at cq1; simp only [e_tn] at cq1; obtain ⟨y98, -, -, -, -, -, y104, -, -, -, -, -, -, y111, -, -, -, y115, y116, y117, -, y119, -⟩ := cq1; unfold ndC; rw [if_neg (fun z => z.elim y111 (fun z => z.elim y115 y116)), if_neg (fun z => z.elim y98 y104), if_neg y117, if_neg y119]; rfl)), rfl⟩
  · refine ei_iconst (v := 0) X dX6_digitsBehind_112 rfl ?_
    refine ei_ireturn X F dX6_digitsBehind_113 ?_
    exact ⟨by first | (rw [cq1]; exact congrArg (fun q => some (Value.int q)) (by decide +kernel)) | (simp_all [ndC, e_tn]; done) | (exact congrArg (fun q => some (Value.int q)) (by unfold e_tn at cq1; simp only [e_tn] at cq1; obtain ⟨y98, -, -, -, -, -, y104, -, -, -, -, -, -, y111, -, -, -, y115, y116, y117, -, y119, -⟩ := cq1; unfold ndC; rw [if_neg (fun z => z.elim y111 (fun z => z.elim y115 y116)), if_neg (fun z => z.elim y98 y104), if_neg y117, if_neg y119]; rfl)), rfl⟩
  · refine ei_iconst (v := 0) X dX6_digitsBehind_112 rfl ?_
    refine ei_ireturn X F dX6_digitsBehind_113 ?_
    exact ⟨by first | (rw [cq1]; exact congrArg (fun q => some (Value.int q)) (by decide +kernel)) | (simp_all [ndC, e_tn]; done) | (exact congrArg (fun q => some (Value.int q)) (by unfold e_tn at cq1; simp only [e_tn] at cq1; obtain ⟨y98, -, -, -, -, -, y104, -, -, -, -, -, -, y111, -, -, -, y115, y116, y117, -, y119, -⟩ := cq1; unfold ndC; rw [if_neg (fun z => z.elim y111 (fun z => z.elim y115 y116)), if_neg (fun z => z.elim y98 y104), if_neg y117, if_neg y119]; rfl)), rfl⟩
  · refine ei_iconst (v := 0) X dX6_digitsBehind_112 rfl ?_
    refine ei_ireturn X F dX6_digitsBehind_113 ?_
    exact ⟨by first | (rw [cq1]; exact congrArg (fun q => some (Value.int q)) (by decide +kernel)) | (simp_all [ndC, e_tn]; done) | (exact congrArg (fun q => some (Value.int q)) (by unfold e_tn at cq1; simp only [e_tn] at cq1; obtain ⟨y98, -, -, -, -, -, y104, -, -, -, -, -, -, y111, -, -, -, y115, y116, y117, -, y119, -⟩ := cq1; unfold ndC; rw [if_neg (fun z => z.elim y111 (fun z => z.elim y115 y116)), if_neg (fun z => z.elim y98 y104), if_neg y117, if_neg y119]; rfl)), rfl⟩
  · refine ei_iconst (v := 0) X dX6_digitsBehind_112 rfl ?_
    refine ei_ireturn X F dX6_digitsBehind_113 ?_
    exact ⟨by first | (rw [cq1]; exact congrArg (fun q => some (Value.int q)) (by decide +kernel)) | (simp_all [ndC, e_tn]; done) | (exact congrArg (fun q => some (Value.int q)) (by unfold e_tn at cq1; simp only [e_tn] at cq1; obtain ⟨y98, -, -, -, -, -, y104, -, -, -, -, -, -, y111, -, -, -, y115, y116, y117, -, y119, -⟩ := cq1; unfold ndC; rw [if_neg (fun z => z.elim y111 (fun z => z.elim y115 y116)), if_neg (fun z => z.elim y98 y104), if_neg y117, if_neg y119]; rfl)), rfl⟩
  · refine ei_iconst (v := 0) X dX6_digitsBehind_112 rfl ?_
    refine ei_ireturn X F dX6_digitsBehind_113 ?_
    exact ⟨by first | (rw [cq1]; exact congrArg (fun q => some (Value.int q)) (by decide +kernel)) | (simp_all [ndC, e_tn]; done) | (exact congrArg (fun q => some (Value.int q)) (by unfold e_tn at cq1; simp only [e_tn] at cq1; obtain ⟨y98, -, -, -, -, -, y104, -, -, -, -, -, -, y111, -, -, -, y115, y116, y117, -, y119, -⟩ := cq1; unfold ndC; rw [if_neg (fun z => z.elim y111 (fun z => z.elim y115 y116)), if_neg (fun z => z.elim y98 y104), if_neg y117, if_neg y119]; rfl)), rfl⟩
  · refine ei_iconst (v := 0) X dX6_digitsBehind_112 rfl ?_
    refine ei_ireturn X F dX6_digitsBehind_113 ?_
    exact ⟨by first | (rw [cq1]; exact congrArg (fun q => some (Value.int q)) (by decide +kernel)) | (simp_all [ndC, e_tn]; done) | (exact congrArg (fun q => some (Value.int q)) (by unfold e_tn at cq1; simp only [e_tn] at cq1; obtain ⟨y98, -, -, -, -, -, y104, -, -, -, -, -, -, y111, -, -, -, y115, y116, y117, -, y119, -⟩ := cq1; unfold ndC; rw [if_neg (fun z => z.elim y111 (fun z => z.elim y115 y116)), if_neg (fun z => z.elim y98 y104), if_neg y117, if_neg y119]; rfl)), rfl⟩
  · refine ei_iconst (v := 1) X dX6_digitsBehind_104 rfl ?_
    refine ei_ireturn X F dX6_digitsBehind_105 ?_
    exact ⟨by first | (rw [cq1]; exact congrArg (fun q => some (Value.int q)) (by decide +kernel)) | (simp_all [ndC, e_tn]; done) | (exact congrArg (fun q => some (Value.int q)) (by unfold e_tn at cq1; simp only [e_tn] at cq1; obtain ⟨y98, -, -, -, -, -, y104, -, -, -, -, -, -, y111, -, -, -, y115, y116, y117, -, y119, -⟩ := cq1; unfold ndC; rw [if_neg (fun z => z.elim y111 (fun z => z.elim y115 y116)), if_neg (fun z => z.elim y98 y104), if_neg y117, if_neg y119]; rfl)), rfl⟩
  · refine ei_iconst (v := 0) X dX6_digitsBehind_112 rfl ?_
    refine ei_ireturn X F dX6_digitsBehind_113 ?_
    exact ⟨by first | (rw [cq1]; exact congrArg (fun q => some (Value.int q)) (by decide +kernel)) | (simp_all [ndC, e_tn]; done) | (exact congrArg (fun q => some (Value.int q)) (by unfold e_tn at cq1; simp only [e_tn] at cq1; obtain ⟨y98, -, -, -, -, -, y104, -, -, -, -, -, -, y111, -, -, -, y115, y116, y117, -, y119, -⟩ := cq1; unfold ndC; rw [if_neg (fun z => z.elim y111 (fun z => z.elim y115 y116)), if_neg (fun z => z.elim y98 y104), if_neg y117, if_neg y119]; rfl)), rfl⟩
  · refine ei_iconst (v := 0) X dX6_digitsBehind_112 rfl ?_
    refine ei_ireturn X F dX6_digitsBehind_113 ?_
    exact ⟨by first | (rw [cq1]; exact congrArg (fun q => some (Value.int q)) (by decide +kernel)) | (simp_all [ndC, e_tn]; done) | (exact congrArg (fun q => some (Value.int q)) (by unfold e_tn at cq1; simp only [e_tn] at cq1; obtain ⟨y98, -, -, -, -, -, y104, -, -, -, -, -, -, y111, -, -, -, y115, y116, y117, -, y119, -⟩ := cq1; unfold ndC; rw [if_neg (fun z => z.elim y111 (fun z => z.elim y115 y116)), if_neg (fun z => z.elim y98 y104), if_neg y117, if_neg y119]; rfl)), rfl⟩
  · refine ei_iconst (v := 0) X dX6_digitsBehind_112 rfl ?_
    refine ei_ireturn X F dX6_digitsBehind_113 ?_
    exact ⟨by first | (rw [cq1]; exact congrArg (fun q => some (Value.int q)) (by decide +kernel)) | (simp_all [ndC, e_tn]; done) | (exact congrArg (fun q => some (Value.int q)) (by unfold e_tn at cq1; simp only [e_tn] at cq1; obtain ⟨y98, -, -, -, -, -, y104, -, -, -, -, -, -, y111, -, -, -, y115, y116, y117, -, y119, -⟩ := cq1; unfold ndC; rw [if_neg (fun z => z.elim y111 (fun z => z.elim y115 y116)), if_neg (fun z => z.elim y98 y104), if_neg y117, if_neg y119]; rfl)), rfl⟩
  · refine ei_iconst (v := 1) X dX6_digitsBehind_104 rfl ?_
    refine ei_ireturn X F dX6_digitsBehind_105 ?_
    exact ⟨by first | (rw [cq1]; exact congrArg (fun q => some (Value.int q)) (by decide +kernel)) | (simp_all [ndC, e_tn]; done) | (exact congrArg (fun q => some (Value.int q)) (by unfold e_tn at cq1; simp only [e_tn] at cq1; obtain ⟨y98, -, -, -, -, -, y104, -, -, -, -, -, -, y111, -, -, -, y115, y116, y117, -, y119, -⟩ := cq1; unfold ndC; rw [if_neg (fun z => z.elim y111 (fun z => z.elim y115 y116)), if_neg (fun z => z.elim y98 y104), if_neg y117, if_neg y119]; rfl)), rfl⟩
  · refine ei_iconst (v := 1) X dX6_digitsBehind_104 rfl ?_
    refine ei_ireturn X F dX6_digitsBehind_105 ?_
    exact ⟨by first | (rw [cq1]; exact congrArg (fun q => some (Value.int q)) (by decide +kernel)) | (simp_all [ndC, e_tn]; done) | (exact congrArg (fun q => some (Value.int q)) (by unfold e_tn at cq1; simp only [e_tn] at cq1; obtain ⟨y98, -, -, -, -, -, y104, -, -, -, -, -, -, y111, -, -, -, y115, y116, y117, -, y119, -⟩ := cq1; unfold ndC; rw [if_neg (fun z => z.elim y111 (fun z => z.elim y115 y116)), if_neg (fun z => z.elim y98 y104), if_neg y117, if_neg y119]; rfl)), rfl⟩
  · refine ei_iconst (v := 3) X dX6_digitsBehind_108 rfl ?_
    refine ei_ireturn X F dX6_digitsBehind_109 ?_
    exact ⟨by first | (rw [cq1]; exact congrArg (fun q => some (Value.int q)) (by decide +kernel)) | (simp_all [ndC, e_tn]; done) | (exact congrArg (fun q => some (Value.int q)) (by unfold e_tn at cq1; simp only [e_tn] at cq1; obtain ⟨y98, -, -, -, -, -, y104, -, -, -, -, -, -, y111, -, -, -, y115, y116, y117, -, y119, -⟩ := cq1; unfold ndC; rw [if_neg (fun z => z.elim y111 (fun z => z.elim y115 y116)), if_neg (fun z => z.elim y98 y104), if_neg y117, if_neg y119]; rfl)), rfl⟩
  · refine ei_iconst (v := 0) X dX6_digitsBehind_112 rfl ?_
    refine ei_ireturn X F dX6_digitsBehind_113 ?_
    exact ⟨by first | (rw [cq1]; exact congrArg (fun q => some (Value.int q)) (by decide +kernel)) | (simp_all [ndC, e_tn]; done) | (exact congrArg (fun q => some (Value.int q)) (by unfold e_tn at cq1; simp only [e_tn] at cq1; obtain ⟨y98, -, -, -, -, -, y104, -, -, -, -, -, -, y111, -, -, -, y115, y116, y117, -, y119, -⟩ := cq1; unfold ndC; rw [if_neg (fun z => z.elim y111 (fun z => z.elim y115 y116)), if_neg (fun z => z.elim y98 y104), if_neg y117, if_neg y119]; rfl)), rfl⟩
  · refine ei_iconst (v := 4) X dX6_digitsBehind_110 rfl ?_
    refine ei_ireturn X F dX6_digitsBehind_111 ?_
    exact ⟨by first | (rw [cq1]; exact congrArg (fun q => some (Value.int q)) (by decide +kernel)) | (simp_all [ndC, e_tn]; done) | (exact congrArg (fun q => some (Value.int q)) (by unfold e_tn at cq1; simp only [e_tn] at cq1; obtain ⟨y98, -, -, -, -, -, y104, -, -, -, -, -, -, y111, -, -, -, y115, y116, y117, -, y119, -⟩ := cq1; unfold ndC; rw [if_neg (fun z => z.elim y111 (fun z => z.elim y115 y116)), if_neg (fun z => z.elim y98 y104), if_neg y117, if_neg y119]; rfl)), rfl⟩
  · refine ei_iconst (v := 0) X dX6_digitsBehind_112 rfl ?_
    refine ei_ireturn X F dX6_digitsBehind_113 ?_
    exact ⟨by first | (rw [cq1]; exact congrArg (fun q => some (Value.int q)) (by decide +kernel)) | (simp_all [ndC, e_tn]; done) | (exact congrArg (fun q => some (Value.int q)) (by unfold e_tn at cq1; simp only [e_tn] at cq1; obtain ⟨y98, -, -, -, -, -, y104, -, -, -, -, -, -, y111, -, -, -, y115, y116, y117, -, y119, -⟩ := cq1; unfold ndC; rw [if_neg (fun z => z.elim y111 (fun z => z.elim y115 y116)), if_neg (fun z => z.elim y98 y104), if_neg y117, if_neg y119]; rfl)), rfl⟩
theorem inRow_nI {z : Sh} (hz : zN z ≤ 100) {p : Nat} (hp : p < 2000) : inRow z (nI p) = decide (p < zN z) := by
  unfold inRow hasF
  rw [decide_eq_true (nI_pos' (by omega)), Bool.true_and]
  exact decide_eq_decide.mpr (nI_ltI (by omega) (by omega))
theorem here_t {z : Sh} {p : Nat} (h : p < zN z) : hereF z p = zC z p := if_pos h
theorem here_f {z : Sh} {p : Nat} (h : ¬ p < zN z) : hereF z p = -999 := if_neg h
set_option maxRecDepth 100000 in
set_option maxHeartbeats 1000000 in
theorem ct_X6_isDigit (z : Sh) (p : Nat) (h_z : zN z ≤ 100) (h_p : p < 2000) : e_Ct yX6_isDigit cX6_isDigit 2 (some .boolean) 2 [.ref 0, .int (nI p)] (shC 0 z) (e_eq (some (.int (bz (isD z p)))) (shC 0 z)) := by
  refine e_open RX6 rfl (by decide +kernel) rfl (fun _ => Nat.le_of_ble_eq_true rfl) (fun x X F => ?_)
  have hi := inRow_nI h_z h_p
  refine ei_aload_n X dX6_isDigit_0 rfl rfl ?_
  refine ei_iload_n X dX6_isDigit_1 rfl rfl ?_
  refine ei_callI1 X ml_RX6_33 dX6_isDigit_2 (ct_X4_hasPlace _ _ (by first | omega | assumption)) rfl rfl (by decide) (by decide) rfl (Nat.le_of_ble_eq_true rfl) ?_
  rw [hi]
  refine ei_ifz_eq (tgt := 34) X dX6_isDigit_5 (by decide) (fun cq5 => ?_) (fun cq5 => ?_)
  · refine ei_iconst (v := 0) X dX6_isDigit_34 rfl ?_
    refine ei_zreturn X F dX6_isDigit_35 (by decide) ?_
    exact ⟨by have hh := here_f (of_decide_eq_false cq5); unfold isD; rw [hh]; decide +kernel, rfl⟩
  · have hlt : p < zN z := of_decide_eq_true cq5
    have hh := here_t hlt
    refine ei_aload_n X dX6_isDigit_8 rfl rfl ?_
    refine ei_getf X fl_RX6_25 dX6_isDigit_9 rfl rfl ?_
    refine ei_iload_n X dX6_isDigit_12 rfl rfl ?_
    refine ei_iaload_n X dX6_isDigit_13 rfl (by first | omega | assumption) (by decide) ?_
    refine ei_bipush (v := 48) X dX6_isDigit_14 rfl ?_
    refine ei_icmp_lt (tgt := 34) X dX6_isDigit_16 (by decide) (fun cq16 => ?_) (fun cq16 => ?_)
    · refine ei_iconst (v := 0) X dX6_isDigit_34 rfl ?_
      refine ei_zreturn X F dX6_isDigit_35 (by decide) ?_
      exact ⟨by unfold isD; rw [hh, decide_eq_false (Int32.not_le.mpr cq16)]; rfl, rfl⟩
    · refine ei_aload_n X dX6_isDigit_19 rfl rfl ?_
      refine ei_getf X fl_RX6_25 dX6_isDigit_20 rfl rfl ?_
      refine ei_iload_n X dX6_isDigit_23 rfl rfl ?_
      refine ei_iaload_n X dX6_isDigit_24 rfl (by first | omega | assumption) (by decide) ?_
      refine ei_bipush (v := 57) X dX6_isDigit_25 rfl ?_
      refine ei_icmp_gt (tgt := 34) X dX6_isDigit_27 (by decide) (fun cq27 => ?_) (fun cq27 => ?_)
      · refine ei_iconst (v := 0) X dX6_isDigit_34 rfl ?_
        refine ei_zreturn X F dX6_isDigit_35 (by decide) ?_
        exact ⟨by unfold isD; rw [hh, decide_eq_false (Int32.not_le.mpr cq27), Bool.and_false]; rfl, rfl⟩
      · refine ei_iconst (v := 1) X dX6_isDigit_30 rfl ?_
        refine ei_goto (tgt := 35) X dX6_isDigit_31 (by decide) ?_
        refine ei_zreturn X F dX6_isDigit_35 (by decide) ?_
        exact ⟨by unfold isD; rw [hh, decide_eq_true (Int32.not_lt.mp cq16), decide_eq_true (Int32.not_lt.mp cq27)]; rfl, rfl⟩
def nuS (z : Sh) (p : Nat) (a k : Nat) : Nat := if isD z (p + k) = true then 10 * a + dgN z (p + k) else a
def nuN (z : Sh) (p m : Nat) : Nat := itr (nuS z p) 0 0 m
theorem isD_lt {z : Sh} {p : Nat} (h : isD z p = true) : p < zN z := by
  rcases Nat.lt_or_ge p (zN z) with q | q
  · exact q
  · unfold isD at h
    rw [here_f (by omega)] at h
    exact absurd h (by decide +kernel)
set_option maxRecDepth 100000 in
set_option maxHeartbeats 1000000 in
theorem ct_X6_number (z : Sh) (p m : Nat) (h_z : zN z ≤ 100) (h_p : p < 1000) (h_m : m ≤ 9) : e_Ct yX6_number cX6_number 5 (some .int) 3 [.ref 0, .int (nI p), .int (nI m)] (shC 0 z) (e_eq (some (.int (nI (nuN z p m)))) (shC 0 z)) := by
  refine e_open RX6 rfl (by decide +kernel) rfl (fun _ => Nat.le_of_ble_eq_true rfl) (fun x X F => ?_)
  have L : ∀ (c k a : Nat), m - k < c → k ≤ m → nuN z p m = itr (nuS z p) a k (m - k) → e_E x 5 [some (.ref 0), some (.int (nI p)), some (.int (nI m)), some (.int (nI a)), some (.int (nI k))] [] (shC 0 z) := by
    intro c
    induction c with
    | zero => intro k a hc; exact absurd hc (Nat.not_lt_zero _)
    | succ c ih =>
      intro k a hc hk hv
      refine ei_iload X dX6_number_5 rfl ?_
      refine ei_iload_n X dX6_number_7 rfl rfl ?_
      refine ei_icmpn_ge (tgt := 46) X dX6_number_8 (by decide) (by first | omega | assumption) (by first | omega | assumption) (fun cq8 => ?_) (fun cq8 => ?_)
      · refine ei_iload_n X dX6_number_46 rfl rfl ?_
        refine ei_ireturn X F dX6_number_47 ?_
        exact ⟨by rw [hv, itr_ge _ _ (by omega)], rfl⟩
      · refine ei_aload_n X dX6_number_11 rfl rfl ?_
        refine ei_iload_n X dX6_number_12 rfl rfl ?_
        refine ei_iload X dX6_number_13 rfl ?_
        refine ei_iadd X dX6_number_15 ?_
        rw [nI_add]
        refine ei_callT1 X ml_RX6_37 dX6_number_16 (ct_X6_isDigit _ _ (by first | omega | assumption) (by first | omega | assumption)) rfl rfl (by decide) (by decide) (Nat.le_of_ble_eq_true rfl) ?_
        refine ei_ifz_eq (tgt := 40) X dX6_number_19 (by decide) (fun cq19 => ?_) (fun cq19 => ?_)
        · refine ei_iinc_n X dX6_number_40 rfl rfl ?_
          refine ei_goto (tgt := 5) X dX6_number_43 (by decide) ?_
          exact ih (k + 1) a (by omega) (by omega) (by rw [hv, itr_lt _ _ (by omega)]; congr 1; unfold nuS; rw [if_neg (by rw [cq19]; exact Bool.false_ne_true)])
        · have hlt := isD_lt cq19
          have hdv := dig_v cq19 a
          rw [here_t hlt] at hdv
          refine ei_bipush (v := nI 10) X dX6_number_22 rfl ?_
          refine ei_iload_n X dX6_number_24 rfl rfl ?_
          refine ei_imul X dX6_number_25 ?_
          rw [nI_mul]
          refine ei_aload_n X dX6_number_26 rfl rfl ?_
          refine ei_getf X fl_RX6_25 dX6_number_27 rfl rfl ?_
          refine ei_iload_n X dX6_number_30 rfl rfl ?_
          refine ei_iload X dX6_number_31 rfl ?_
          refine ei_iadd X dX6_number_33 ?_
          rw [nI_add]
          refine ei_iaload_n X dX6_number_34 rfl (by first | omega | assumption) (by decide) ?_
          refine ei_iadd X dX6_number_35 ?_
          refine ei_bipush (v := 48) X dX6_number_36 rfl ?_
          refine ei_isub X dX6_number_38 ?_
          rw [hdv]
          refine ei_istore_n X dX6_number_39 rfl (Nat.le_of_ble_eq_true rfl) rfl ?_
          refine ei_iinc_n X dX6_number_40 rfl rfl ?_
          refine ei_goto (tgt := 5) X dX6_number_43 (by decide) ?_
          exact ih (k + 1) (10 * a + dgN z (p + k)) (by omega) (by omega) (by rw [hv, itr_lt _ _ (by omega)]; congr 1; unfold nuS; rw [if_pos cq19])
  refine ei_iconst (v := nI 0) X dX6_number_0 rfl ?_
  refine ei_istore_n X dX6_number_1 rfl (Nat.le_of_ble_eq_true rfl) rfl ?_
  refine ei_iconst (v := nI 0) X dX6_number_2 rfl ?_
  refine ei_istore X dX6_number_3 (Nat.le_of_ble_eq_true rfl) rfl ?_
  exact L (m + 1) 0 0 (by omega) (by omega) rfl
theorem nu_1 {z : Sh} {p : Nat} (h : isD z p = true) : nuN z p 1 = dgN z p := by
  show nuS z p 0 0 = _
  unfold nuS
  rw [Nat.add_zero, if_pos h, Nat.mul_zero, Nat.zero_add]
theorem nuS_t {z : Sh} {p a k : Nat} (h : isD z (p + k) = true) : nuS z p a k = 10 * a + dgN z (p + k) := if_pos h
theorem nu_2 {z : Sh} {p : Nat} (h : isD z p = true) (h2 : isD z (p + 1) = true) : nuN z p 2 = 10 * dgN z p + dgN z (p + 1) := by
  have e : itr (nuS z p) 0 0 (0 + 1 + 1) = 10 * (10 * 0 + dgN z (p + 0)) + dgN z (p + (0 + 1)) := by
    rw [itr_s, itr_s, itr_0, nuS_t (k := 0) h, nuS_t (k := 0 + 1) h2]
  rw [show 10 * 0 + dgN z (p + 0) = dgN z p from by rw [Nat.add_zero, Nat.mul_zero, Nat.zero_add]] at e
  exact e
theorem nu_3 {z : Sh} {p : Nat} (h : isD z p = true) (h2 : isD z (p + 1) = true) (h3 : isD z (p + 2) = true) : nuN z p 3 = 10 * (10 * dgN z p + dgN z (p + 1)) + dgN z (p + 2) := by
  have e : itr (nuS z p) 0 0 (0 + 1 + 1 + 1) = 10 * (10 * (10 * 0 + dgN z (p + 0)) + dgN z (p + (0 + 1))) + dgN z (p + (0 + 1 + 1)) := by
    rw [itr_s, itr_s, itr_s, itr_0, nuS_t (k := 0) h, nuS_t (k := 0 + 1) h2, nuS_t (k := 0 + 1 + 1) h3]
  rw [show 10 * 0 + dgN z (p + 0) = dgN z p from by rw [Nat.add_zero, Nat.mul_zero, Nat.zero_add]] at e
  exact e
def wrI (z : Sh) : Int32 := match rdN z 200 0 with
  | some q => nI q
  | none => -1
theorem wrI_s {z : Sh} {q : Nat} (h : rdN z 200 0 = some q) : wrI z = nI q := by unfold wrI; rw [h]
theorem wrI_n {z : Sh} (h : rdN z 200 0 = none) : wrI z = -1 := by unfold wrI; rw [h]
theorem nd_999 : ndC (-999) = 0 := by decide +kernel
set_option maxRecDepth 100000 in
set_option maxHeartbeats 1000000 in
theorem ct_X6_firstWrong (z : Sh) (h_z : zN z ≤ 100) : e_Ct yX6_firstWrong cX6_firstWrong 4 (some .int) 3 [.ref 0] (shC 0 z) (e_eq (some (.int (wrI z))) (shC 0 z)) := by
  refine e_open RX6 rfl (by decide +kernel) rfl (fun _ => Nat.le_of_ble_eq_true rfl) (fun x X F => ?_)
  have L : ∀ (c e p : Nat) (y2 y3 : Option Value), 200 - p < c → p ≤ 110 → 200 ≤ e + p → rdN z 200 0 = rdN z e p → e_E x 2 [some (.ref 0), some (.int (nI p)), y2, y3] [] (shC 0 z) := by
    intro c
    induction c with
    | zero => intro e p y2 y3 hc; exact absurd hc (Nat.not_lt_zero _)
    | succ c ih =>
      intro e p y2 y3 hc hp he hv
      obtain ⟨e, rfl⟩ : ∃ e', e = e' + 1 := ⟨e - 1, by omega⟩
      have hnl := nd_le (hereF z p)
      have hnf : ndF z p = ndC (hereF z p) := rfl
      have hbad : okS z p = false → rdN z 200 0 = some (bdF z p) := fun hb => by rw [hv, rdN_bad hb]
      have E59 : 0 < ndF z p → qdF z p = p + 1 + ndF z p → ∀ (y3 : Option Value), e_E x 59 [some (.ref 0), some (.int (nI (p + 1 + ndF z p))), some (.int (nI (ndF z p))), y3] [] (shC 0 z) := by
        intro h0 hq y3
        have hi := inRow_nI h_z (p := p + 1 + ndF z p) (by omega)
        have hbd : okS z p = false → rdN z 200 0 = some (p + 1 + ndF z p) := fun hb => by rw [hbad hb]; unfold bdF; rw [if_neg (by omega), hq]
        refine ei_aload_n X dX6_firstWrong_59 rfl rfl ?_
        refine ei_iload_n X dX6_firstWrong_60 rfl rfl ?_
        refine ei_callI1 X ml_RX6_33 dX6_firstWrong_61 (ct_X4_hasPlace _ _ (by first | omega | assumption)) rfl rfl (by decide) (by decide) rfl (Nat.le_of_ble_eq_true rfl) ?_
        rw [hi]
        refine ei_ifz_eq (tgt := 78) X dX6_firstWrong_64 (by decide) (fun cq64 => ?_) (fun cq64 => ?_)
        · refine ei_iload_n X dX6_firstWrong_78 rfl rfl ?_
          refine ei_ireturn X F dX6_firstWrong_79 ?_
          exact ⟨by rw [wrI_s (hbd (by unfold okS; rw [hq, here_f (of_decide_eq_false cq64)]; rw [show decide ((-999 : Int32) = 59) = false from by decide, Bool.and_false, Bool.and_false]))], rfl⟩
        · have hlt : p + 1 + ndF z p < zN z := of_decide_eq_true cq64
          refine ei_aload_n X dX6_firstWrong_67 rfl rfl ?_
          refine ei_getf X fl_RX6_25 dX6_firstWrong_68 rfl rfl ?_
          refine ei_iload_n X dX6_firstWrong_71 rfl rfl ?_
          refine ei_iaload_n X dX6_firstWrong_72 rfl (by first | omega | assumption) (by decide) ?_
          refine ei_bipush (v := 59) X dX6_firstWrong_73 rfl ?_
          refine ei_icmp_eq (tgt := 80) X dX6_firstWrong_75 (by decide) (fun cq75 => ?_) (fun cq75 => ?_)
          · refine ei_iinc_n X dX6_firstWrong_80 rfl rfl ?_
            refine ei_iload_n X dX6_firstWrong_83 rfl rfl ?_
            refine ei_aload_n X dX6_firstWrong_84 rfl rfl ?_
            refine ei_getf X fl_RX6_15 dX6_firstWrong_85 rfl rfl ?_
            refine ei_icmpn_lt (tgt := 2) X dX6_firstWrong_88 (by decide) (by first | omega | assumption) (by first | omega | assumption) (fun cq88 => ?_) (fun cq88 => ?_)
            · have hok : okS z p = true := (by unfold okS; rw [decide_eq_true h0, hq, here_t hlt, decide_eq_true rfl, decide_eq_true cq75]; rfl)
              have hv2 := hv
              rw [rdN_ok hok, if_pos (show nxF z p < zN z by unfold nxF; omega)] at hv2
              have h9 := ih e (nxF z p) (some (.int (nI (ndF z p)))) y3 (by unfold nxF; omega) (by unfold nxF; omega) (by unfold nxF; omega) hv2
              rw [show nxF z p = p + 1 + ndF z p + 1 by unfold nxF; omega] at h9
              exact h9
            · refine ei_iconst (v := -1) X dX6_firstWrong_91 rfl ?_
              refine ei_ireturn X F dX6_firstWrong_92 ?_
              have hok : okS z p = true := (by unfold okS; rw [decide_eq_true h0, hq, here_t hlt, decide_eq_true rfl, decide_eq_true cq75]; rfl)
              exact ⟨by rw [wrI_n (by rw [hv, rdN_ok hok, if_neg (show ¬ nxF z p < zN z by unfold nxF; omega)])], rfl⟩
          · refine ei_iload_n X dX6_firstWrong_78 rfl rfl ?_
            refine ei_ireturn X F dX6_firstWrong_79 ?_
            exact ⟨by rw [wrI_s (hbd (by unfold okS; rw [hq, here_t hlt, decide_eq_false cq75, Bool.and_false, Bool.and_false]))], rfl⟩
      have LD : 0 < ndF z p → ∀ (cq2 k : Nat), ndF z p - k < cq2 → k ≤ ndF z p → qdF z p = firstN (fun j => !isD z j) (p + 1 + k) (ndF z p - k) → e_E x 35 [some (.ref 0), some (.int (nI (p + 1 + k))), some (.int (nI (ndF z p))), some (.int (nI k))] [] (shC 0 z) := by
        intro h0 cq2
        induction cq2 with
        | zero => intro k hc2; exact absurd hc2 (Nat.not_lt_zero _)
        | succ cq2 ih2 =>
          intro k hc2 hk hq
          refine ei_iload_n X dX6_firstWrong_35 rfl rfl ?_
          refine ei_iload_n X dX6_firstWrong_36 rfl rfl ?_
          refine ei_icmpn_ge (tgt := 59) X dX6_firstWrong_37 (by decide) (by first | omega | assumption) (by first | omega | assumption) (fun cq37 => ?_) (fun cq37 => ?_)
          · have ek : k = ndF z p := (by omega)
            subst ek
            exact E59 h0 (by rw [hq, Nat.sub_self]; rfl) _
          · refine ei_aload_n X dX6_firstWrong_40 rfl rfl ?_
            refine ei_iload_n X dX6_firstWrong_41 rfl rfl ?_
            refine ei_callT1 X ml_RX6_37 dX6_firstWrong_42 (ct_X6_isDigit _ _ (by first | omega | assumption) (by first | omega | assumption)) rfl rfl (by decide) (by decide) (Nat.le_of_ble_eq_true rfl) ?_
            refine ei_ifz_ne (tgt := 50) X dX6_firstWrong_45 (by decide) (fun cq45 => ?_) (fun cq45 => ?_)
            · refine ei_iinc_n X dX6_firstWrong_50 rfl rfl ?_
              refine ei_iinc_n X dX6_firstWrong_53 rfl rfl ?_
              refine ei_goto (tgt := 35) X dX6_firstWrong_56 (by decide) ?_
              exact ih2 (k + 1) (by omega) (by omega) (by rw [hq, show ndF z p - k = (ndF z p - (k + 1)) + 1 by omega]; exact if_neg (by show ¬ (!isD z (p + 1 + k)) = true; rw [cq45]; decide))
            · refine ei_iload_n X dX6_firstWrong_48 rfl rfl ?_
              refine ei_ireturn X F dX6_firstWrong_49 ?_
              have eq1 : qdF z p = p + 1 + k := (by rw [hq, show ndF z p - k = (ndF z p - (k + 1)) + 1 by omega]; exact if_pos (by show (!isD z (p + 1 + k)) = true; rw [cq45]; rfl))
              exact ⟨by rw [wrI_s (hbad (by unfold okS; rw [decide_eq_false (show ¬ qdF z p = p + 1 + ndF z p by omega), Bool.false_and, Bool.and_false]))]; unfold bdF; rw [if_neg (by omega), eq1], rfl⟩
      have E23 : ∀ (q : Nat), q = ndF z p → e_E x 23 [some (.ref 0), some (.int (nI p)), y2, y3] [.int (nI q)] (shC 0 z) := by
        intro q hq0
        have hz0 : nI q = 0 ↔ ndF z p = 0 := by rw [hq0, ← nI_0]; exact nI_eq (by omega) (by decide)
        refine ei_istore_n X dX6_firstWrong_23 rfl (Nat.le_of_ble_eq_true rfl) rfl ?_
        refine ei_iload_n X dX6_firstWrong_24 rfl rfl ?_
        refine ei_if_ne (tgt := 30) X dX6_firstWrong_25 (by decide) (fun cq25 => ?_) (fun cq25 => ?_)
        · refine ei_iinc_n X dX6_firstWrong_30 rfl rfl ?_
          refine ei_iconst (v := nI 0) X dX6_firstWrong_33 rfl ?_
          refine ei_istore_n X dX6_firstWrong_34 rfl (Nat.le_of_ble_eq_true rfl) rfl ?_
          have h0 : 0 < ndF z p := Nat.pos_of_ne_zero (fun z => cq25 (hz0.mpr z))
          rw [hq0]
          exact LD h0 (ndF z p + 1) 0 (by omega) (by omega) rfl
        · refine ei_iload_n X dX6_firstWrong_28 rfl rfl ?_
          refine ei_ireturn X F dX6_firstWrong_29 ?_
          have h0 := hz0.mp cq25
          exact ⟨by rw [wrI_s (hbad (by unfold okS; rw [h0]; rfl))]; unfold bdF; rw [if_pos h0], rfl⟩
      have hi := inRow_nI h_z (p := p) (by omega)
      refine ei_aload_n X dX6_firstWrong_2 rfl rfl ?_
      refine ei_iload_n X dX6_firstWrong_3 rfl rfl ?_
      refine ei_callI1 X ml_RX6_33 dX6_firstWrong_4 (ct_X4_hasPlace _ _ (by first | omega | assumption)) rfl rfl (by decide) (by decide) rfl (Nat.le_of_ble_eq_true rfl) ?_
      rw [hi]
      refine ei_ifz_eq (tgt := 22) X dX6_firstWrong_7 (by decide) (fun cq7 => ?_) (fun cq7 => ?_)
      · refine ei_iconst (v := nI 0) X dX6_firstWrong_22 rfl ?_
        exact E23 0 (by rw [hnf, here_f (of_decide_eq_false cq7), nd_999])
      · have hlt : p < zN z := of_decide_eq_true cq7
        refine ei_aload_n X dX6_firstWrong_10 rfl rfl ?_
        refine ei_getf X fl_RX6_25 dX6_firstWrong_11 rfl rfl ?_
        refine ei_iload_n X dX6_firstWrong_14 rfl rfl ?_
        refine ei_iaload_n X dX6_firstWrong_15 rfl (by first | omega | assumption) (by decide) ?_
        refine ei_callT1 X ml_RX6_29 dX6_firstWrong_16 (ct_X6_digitsBehind _ _) rfl rfl (by decide) (by decide) (Nat.le_of_ble_eq_true rfl) ?_
        refine ei_goto (tgt := 23) X dX6_firstWrong_19 (by decide) ?_
        exact E23 _ (by rw [hnf, here_t hlt])
  refine ei_iconst (v := nI 0) X dX6_firstWrong_0 rfl ?_
  refine ei_istore_n X dX6_firstWrong_1 rfl (Nat.le_of_ble_eq_true rfl) rfl ?_
  exact L 201 200 0 none none (by omega) (by omega) (by omega) rfl

