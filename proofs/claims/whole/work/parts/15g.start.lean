/-! ===== the law's start ===== -/
def l_h1 : List eC := oHb.map (e_rn (g_rf 0 1))
def l_h3 : List eC := l_h1 ++ (mH S0 M0).map (e_rn (g_rf 32 33))
def l_c0m : eC := .inr (4, [.int 0, .null, .null, .null, .int 0, .int 0, .int 0, .int 0, .int 0, .int 0, .int 0, .int 0, .int 0, .int 0, .null, .null, .null, .null, .null, .null, .int 0, .int 0, .int 0, .int 0, .int 0, .null, .null, .null, .null, .null, .int 0, .int 0, .int 0, .null, .null, .null, .null, .null, .null, .int 0, .null])
def l_c0f : eC := .inr (3, [.null, .null, .null, .int 0, .null, .null])
abbrev l_e1 (a b c : Option Value) : List (Option Value) := [some (.ref 1000), a, b, c, none, none, none, none]
theorem l_c13 {N : Nat} (hN : 30 ≤ N) : g_c N (.inl (2, 8, .inr (.inr (.inr (.inr fun j => (if j < 8 then some (14 + 2 * j) else none : Option Nat).map (g_rf 0 1)))))) := by
  intro j k q
  dsimp only at q
  by_cases hj : j < 8
  · rw [if_pos hj, Option.map_some] at q
    cases q
    rw [show 14 + 2 * j = 13 + 2 * j + 1 by omega]
    show 1 + (13 + 2 * j) < N
    omega
  · rw [if_neg hj] at q
    cases q
theorem g_h_app {N : Nat} : ∀ {a b : List eC}, g_h N a → g_h N b → g_h N (a ++ b)
  | [], _, _, h => h
  | _ :: _, _, h1, h => ⟨h1.1, g_h_app h1.2 h⟩
theorem l_g1_32 : g_h 32 l_h1 := ⟨(g_cB rfl), (g_cB rfl), trivial, trivial, trivial, (g_cB rfl), trivial, trivial, trivial, (g_cB rfl), trivial, trivial, trivial, (l_c13 (by decide)), (g_cB rfl), trivial, (g_cB rfl), trivial, (g_cB rfl), trivial, (g_cB rfl), trivial, (g_cB rfl), trivial, (g_cB rfl), trivial, (g_cB rfl), trivial, (g_cB rfl), trivial, (g_cB rfl), trivial, trivial⟩
theorem l_g1_33 : g_h 33 l_h1 := ⟨(g_cB rfl), (g_cB rfl), trivial, trivial, trivial, (g_cB rfl), trivial, trivial, trivial, (g_cB rfl), trivial, trivial, trivial, (l_c13 (by decide)), (g_cB rfl), trivial, (g_cB rfl), trivial, (g_cB rfl), trivial, (g_cB rfl), trivial, (g_cB rfl), trivial, (g_cB rfl), trivial, (g_cB rfl), trivial, (g_cB rfl), trivial, (g_cB rfl), trivial, trivial⟩
theorem l_g3_53 : g_h 53 l_h3 := ⟨(g_cB rfl), (g_cB rfl), trivial, trivial, trivial, (g_cB rfl), trivial, trivial, trivial, (g_cB rfl), trivial, trivial, trivial, (l_c13 (by decide)), (g_cB rfl), trivial, (g_cB rfl), trivial, (g_cB rfl), trivial, (g_cB rfl), trivial, (g_cB rfl), trivial, (g_cB rfl), trivial, (g_cB rfl), trivial, (g_cB rfl), trivial, (g_cB rfl), trivial, (g_cB rfl), trivial, trivial, trivial, trivial, trivial, trivial, trivial, trivial, trivial, trivial, trivial, trivial, trivial, trivial, trivial, trivial, trivial, trivial, trivial, trivial, trivial⟩
theorem l_c13b {N : Nat} (hN : 30 ≤ N) : g_c N (.inl (2, 8, .inr (.inr (.inr (.inr fun j => (if j < 8 then some (14 + 2 * j) else none : Option Nat)))))) := by
  intro j k q
  dsimp only at q
  by_cases hj : j < 8
  · rw [if_pos hj] at q
    cases q
    omega
  · rw [if_neg hj] at q
    cases q
theorem l_gb9 : g_h 32 oHb := ⟨(g_cB rfl), (g_cB rfl), trivial, trivial, trivial, (g_cB rfl), trivial, trivial, trivial, (g_cB rfl), trivial, trivial, trivial, (l_c13b (by decide)), (g_cB rfl), trivial, (g_cB rfl), trivial, (g_cB rfl), trivial, (g_cB rfl), trivial, (g_cB rfl), trivial, (g_cB rfl), trivial, (g_cB rfl), trivial, (g_cB rfl), trivial, (g_cB rfl), trivial, trivial⟩
theorem l_gb10 : g_h 21 (mH S0 M0) := ⟨(g_cB rfl), trivial, trivial, trivial, trivial, trivial, trivial, trivial, trivial, trivial, trivial, trivial, trivial, trivial, trivial, trivial, trivial, trivial, trivial, trivial, trivial, trivial⟩
set_option maxHeartbeats 1000000 in
theorem l_s0 {y : g_T} (Y : g_Y y) (hmc : 566 ≤ g_mc y) (hms : 5811 ≤ g_ms y) (k : e_G y RL cL_law 18 1 1 6 3 (l_e1 none none none) [.ref 0] [l_c0f]) : e_G y RL cL_law 18 0 0 0 0 (l_e1 none none none) [] [] := by
  intro ad hR X
  refine gi_new (ci := 3) (n := 6) (C := RX9) (T := TX9) (ty := tyX9) (fs := [.null, .null, .null, .int 0, .null, .null]) hR X Y dL_law_0 cl_RL_8.1 cl_RL_8.2.1 cl_RL_8.2.2 rfl e_uwsX9 tyX9_ok (by decide +kernel) (fun _ => rfl) (Nat.le_trans (Nat.le_of_ble_eq_true rfl) hmc) (Nat.le_trans (Nat.le_of_ble_eq_true rfl) hms) (by simp [g_v]) (by simp [g_b]) trivial ?_
  exact k
set_option maxHeartbeats 1000000 in
theorem l_s1 {y : g_T} (Y : g_Y y) (hmc : 566 ≤ g_mc y) (hms : 5811 ≤ g_ms y) (k : e_G y RL cL_law 18 32 32 1086 7 (l_e1 none none none) [.ref 0] l_h1) : e_G y RL cL_law 18 1 1 6 3 (l_e1 none none none) [.ref 0] [l_c0f] := by
  intro ad hR X
  refine ei_dup X dL_law_3 rfl ?_
  refine gi_callI (N2 := 32) (b0 := oHb.head (by decide)) (new := oHb.tail) (h2 := l_h1) (mc := 31) (ms := 1080) hR X Y mi_RL_17 dL_law_4 ctX9_init rfl (g_cB rfl) (by decide) (by decide) (by decide) (Nat.le_trans (Nat.le_of_ble_eq_true rfl) hmc) (Nat.le_trans (Nat.le_of_ble_eq_true rfl) hms) (by simp [g_v]; exact Nat.le_of_ble_eq_true rfl) (by simp [g_b]) ⟨g_cB rfl, trivial⟩ l_gb9 rfl rfl ?_
  exact k
set_option maxHeartbeats 1000000 in
theorem l_s2 {y : g_T} (Y : g_Y y) (hmc : 566 ≤ g_mc y) (hms : 5811 ≤ g_ms y) (k : e_G y RL cL_law 18 33 33 1127 11 (l_e1 (some (.ref 0)) none none) [.ref 32] (l_h1 ++ [l_c0m])) : e_G y RL cL_law 18 32 32 1086 7 (l_e1 none none none) [.ref 0] l_h1 := by
  intro ad hR X
  refine ei_astore_n X dL_law_7 rfl (by decide) rfl ?_
  refine gi_new (ls := (l_e1 (some (.ref 0)) none none)) (ci := 4) (n := 41) (C := RX10) (T := TX10) (ty := tyX10) (fs := [.int 0, .null, .null, .null, .int 0, .int 0, .int 0, .int 0, .int 0, .int 0, .int 0, .int 0, .int 0, .int 0, .null, .null, .null, .null, .null, .null, .int 0, .int 0, .int 0, .int 0, .int 0, .null, .null, .null, .null, .null, .int 0, .int 0, .int 0, .null, .null, .null, .null, .null, .null, .int 0, .null]) hR X Y dL_law_8 cl_RL_18.1 cl_RL_18.2.1 cl_RL_18.2.2 rfl e_uwsX10 tyX10_ok (by decide +kernel) (fun _ => rfl) (Nat.le_trans (Nat.le_of_ble_eq_true rfl) hmc) (Nat.le_trans (Nat.le_of_ble_eq_true rfl) hms) (by simp [g_v]) (by simp [g_b]) l_g1_32 ?_
  exact k
set_option maxHeartbeats 1000000 in
theorem l_s3 {y : g_T} (Y : g_Y y) (hmc : 566 ≤ g_mc y) (hms : 5811 ≤ g_ms y) (k : e_G y RL cL_law 18 53 53 2738 15 (l_e1 (some (.ref 0)) none none) [.ref 32] l_h3) : e_G y RL cL_law 18 33 33 1127 11 (l_e1 (some (.ref 0)) none none) [.ref 32] (l_h1 ++ [l_c0m]) := by
  intro ad hR X
  refine ei_dup X dL_law_11 rfl ?_
  refine gi_callI (N2 := 53) (b0 := (mH S0 M0).head (by decide)) (new := (mH S0 M0).tail) (h2 := l_h3) (mc := 20) (ms := 1611) hR X Y mi_RL_20 dL_law_12 ctX10_init rfl (g_cB rfl) (by decide) (by decide) (by decide) (Nat.le_trans (Nat.le_of_ble_eq_true rfl) hmc) (Nat.le_trans (Nat.le_of_ble_eq_true rfl) hms) (by simp [g_v]; exact Nat.le_of_ble_eq_true rfl) (by simp [g_b]) (g_h_app l_g1_33 ⟨g_cB rfl, trivial⟩) l_gb10 rfl rfl ?_
  exact k
set_option maxHeartbeats 1000000 in
theorem l_s4 {y : g_T} (Y : g_Y y) (hmc : 566 ≤ g_mc y) (hms : 5811 ≤ g_ms y) (k : e_G y RL cL_law 18 54 54 2739 19 (l_e1 (some (.ref 0)) (some (.ref 32)) none) [.ref 53] (l_h3 ++ el_o fun _ => 0)) : e_G y RL cL_law 18 53 53 2738 15 (l_e1 (some (.ref 0)) none none) [.ref 32] l_h3 := by
  intro ad hR X
  refine ei_astore_n X dL_law_15 rfl (by decide) rfl ?_
  refine ei_iconst (ls := (l_e1 (some (.ref 0)) (some (.ref 32)) none)) (v := 1) X dL_law_16 (by decide +kernel) ?_
  refine gi_newl hR X Y 1 dL_law_17 (by decide +kernel) (by decide +kernel) (Nat.le_of_ble_eq_true rfl) (Nat.le_trans (Nat.le_of_ble_eq_true rfl) hmc) (Nat.le_trans (Nat.le_of_ble_eq_true rfl) hms) (by simp [g_v]) (by simp [g_b]) l_g3_53 ?_
  exact k
