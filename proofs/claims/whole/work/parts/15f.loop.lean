/-! ===== the law's loop ===== -/
/-- the room of k exceptions -/
def l_V (k : Nat) : e_T → Prop
  | (_, l, _, R, s, _, _, _, _, _, _, _, _, _, A, N, nL, cells, slots, _) => l.stackTraces = false ∧ el_F A s.heap s ∧ cells + k ≤ R.cells ∧ slots + 6 * k ≤ R.slots ∧ N = 54 ∧ nL = 8
theorem l_V_P {k : Nat} {x : e_T} (h : l_V (k + 1) x) : l_P x := by
  obtain ⟨p, l, e, R, s, m, args, below, meth, c, dC, dI, dA, ad, A, N, nL, cells, slots, Q⟩ := x
  obtain ⟨h1, h2, h3, h4, h5, h6⟩ := h
  exact ⟨h1, h2, by omega, by omega, h5, h6⟩
theorem l_V_dn {k : Nat} {x : e_T} (h : l_V (k + 1) x) : l_V k x := by
  obtain ⟨p, l, e, R, s, m, args, below, meth, c, dC, dI, dA, ad, A, N, nL, cells, slots, Q⟩ := x
  obtain ⟨h1, h2, h3, h4, h5, h6⟩ := h
  exact ⟨h1, h2, by omega, by omega, h5, h6⟩
theorem l_V_mk {k : Nat} {p : Program} {l : Launch} {e : Env} {R : Room} {s : State} {m : MethodId} {args : Array Value} {below : List Frame} {meth : Method} {c : Code} {dC : Nat → ClassId} {dI : Nat → Nat → Nat} {dA : Nat → ClassId} {ad : Nat → Nat} {A : Nat → Prop} {N nL cells slots : Nat} {Q : State → Prop} (h : l.stackTraces = false ∧ el_F A s.heap s ∧ cells + k ≤ R.cells ∧ slots + 6 * k ≤ R.slots ∧ N = 54 ∧ nL = 8) : l_V k (p, l, e, R, s, m, args, below, meth, c, dC, dI, dA, ad, A, N, nL, cells, slots, Q) := h
theorem l_V_up {k : Nat} {x : e_T} (h : l_V (k + 1) x) : l_V k (l_up x) := by
  obtain ⟨p, l, e, R, s, m, args, below, meth, c, dC, dI, dA, ad, A, N, nL, cells, slots, Q⟩ := x
  obtain ⟨h1, h2, h3, h4, h5, h6⟩ := h
  rw [l_up_eq]
  exact l_V_mk ⟨h1, h2, by omega, by omega, h5, h6⟩
theorem l_more {L k : Nat} (hL : L ≤ 3072) (hk : 6 * k ≤ L) : nI L - 6 < nI (6 * k) ↔ ¬ 6 * k + 6 ≤ L := by
  have h6 : (6 : Int32).toInt = 6 := by decide
  have e1 : (nI L).toInt = (L : Int) := nI_toInt (by omega)
  have e2 : (nI (6 * k)).toInt = ((6 * k : Nat) : Int) := nI_toInt (by omega)
  rw [Int32.lt_iff_toInt_lt, i32_sub (by omega) (by omega) (by omega) (by omega), e1, e2, h6]
  omega
set_option maxHeartbeats 1000000 in
theorem l_disp {x : e_T} {N D T : St} {im : Bool} {Z : Nat → Sh} {be : Nat → Int32} {g : Nat → Int64} {M : MX} {L k j : Nat} {xs : Nat → Int32} (X : e_X x RL cL_law 18) (hSc : l_S x L xs) (hL : L ≤ 3072) (hk6 : 6 * k + 6 ≤ L) (hR : lwR N T im Z be M) (hV1 : l_V (j + 1) x) (hK : ∀ g, l_K x k g) (hK2 : ∀ g, l_K (l_up x) k g) : e_E x 40 (l_ls k) [.int (xs (6 * k) &&& 63)] (lC N D T im Z be g N M) := by
  obtain ⟨n, w, se, sp, hr, lt, hd, sc, so, fi, wo⟩ := N
  obtain ⟨n2, w2, se2, sp2, hr2, lt2, hd2, sc2, so2, fi2, wo2⟩ := T
  obtain ⟨I, A, B, K⟩ := M
  refine ei_table [(0, 220), (1, 245), (2, 282), (3, 307), (4, 344), (5, 369), (6, 394), (7, 419), (8, 468), (9, 493), (10, 530), (11, 567), (12, 592), (13, 605), (14, 630), (15, 691), (16, 740), (17, 790), (18, 827), (19, 864), (20, 889), (21, 926), (22, 963), (23, 1012), (24, 1037), (25, 1086), (26, 1135), (27, 1197), (28, 1235), (29, 1260), (30, 1285), (31, 1334), (32, 1347), (33, 1360), (34, 1385), (35, 1446), (36, 1495), (37, 1544), (38, 1611), (39, 1684), (40, 1709)] 1734 X dL_law_40 (by decide +kernel) (by decide) (by decide) ?_ (fun _ => hK g _ _ _ _ _ _ _ hR)
  exact ⟨fun _ => lw_string X hSc hL hk6 hR (hK g), fun _ => lw_bulb X hSc hL hk6 hR (hK g), fun _ => lw_hangs X hSc hL hk6 hR (hK g), fun _ => lw_wears X hSc hL hk6 hR (hK g), fun _ => lw_breaks X hSc hL hk6 hR (hK g), fun _ => lw_spares X hSc hL hk6 hR (hK g), fun _ => lw_twist X hSc hL hk6 hR (hK g), fun _ => lw_use X hSc hL hk6 hR (hK g), fun _ => lw_hours X hSc hL hk6 hR (hK g), fun _ => lw_then X hSc hL hk6 hR (hK g), fun _ => lw_wornThen X hSc hL hk6 hR (hK g), fun _ => lw_goes X hSc hL hk6 hR (hK g), fun _ => lw_dark X hSc hL hk6 hR (hK g), fun _ => lw_lights X hSc hL hk6 hR (hK g), fun _ => lw_tool X hSc hL hk6 hR (hK g), fun _ => lw_halves X hSc hL hk6 hR (hK g), fun _ => lw_mean X hSc hL hk6 hR (hK g), fun _ => lw_order X hSc hL hk6 hR (hK g), fun _ => lw_suspects X hSc hL hk6 hR (hK g), fun _ => lw_buy X hSc hL hk6 hR (hK g), fun _ => lw_light X hSc hL hk6 hR (hK g), fun _ => lw_split X hSc hL hk6 hR (hK g), fun _ => lw_beat X hSc hL hk6 hR (hK g), fun _ => lw_end X hSc hL hk6 hR (hK g), fun _ => lw_whatIs X hSc hL hk6 hR (hK g), fun _ => lw_wornFrom X hSc hL hk6 hR (hK g), fun _ => lw_frost X hSc hL hk6 hR (hK g), fun _ => lw_share X hSc hL hk6 hR (hK g), fun _ => lw_forged X hSc hL hk6 hR (hK g), fun _ => lw_judge X hSc hL hk6 hR (hK g), fun _ => lw_winters X hSc hL hk6 hR (hK g), fun _ => lw_image _ _ _ _ _ _ _ _ _ _ _ _ _ _ _ X hR (hK g), fun _ => lw_restore _ _ _ _ _ _ _ _ _ _ _ _ _ _ _ _ _ _ _ _ _ _ _ _ _ _ X hR (hK g), fun _ => lw_count X hSc hL hk6 hR (hK g), fun _ => lw_keep X hSc hL hk6 hR (hK g), fun _ => lw_row X hSc hL hk6 hR (hK g), fun _ => lw_put X hSc hL hk6 hR (hK g), fun _ => lw_element _ _ _ _ _ _ _ _ _ _ _ _ _ _ _ X hSc (l_V_P hV1) hL hk6 hR hK2, fun _ => lw_copy X hSc hL hk6 hR (hK g), fun _ => lw_cost X hSc hL hk6 hR (hK g), fun _ => lw_toss X hSc hL hk6 hR (hK g), trivial⟩
theorem l_loop {F : e_T → Prop} (hF1 : ∀ x, F x → F (l_up x)) (hF2 : ∀ x, F x → e_X x RL cL_law 18 → ∀ k h, e_E x 1740 (l_ls k) [] h) {L : Nat} {xs : Nat → Int32} (hL : L ≤ 3072) : ∀ (c k : Nat) (x : e_T) (N D T : St) (im : Bool) (Z : Nat → Sh) (be : Nat → Int32) (g : Nat → Int64) (M : MX), 512 - k < c → k ≤ 512 → 6 * k ≤ L → e_X x RL cL_law 18 → l_S x L xs → l_V (512 - k) x → F x → lwR N T im Z be M → e_E x 23 (l_ls k) [] (lC N D T im Z be g N M)
  | 0, k, x, _, _, _, _, _, _, _, _, hc, _, _, _, _, _, _, _ => absurd hc (Nat.not_lt_zero _)
  | c + 1, k, x, N, D, T, im, Z, be, g, M, hc, hk5, hk, X, hSc, hV, hF, hR => by
    refine ei_iload X dL_law_23 rfl ?_
    refine ei_aload_n (i := 0) (a := 1000) X dL_law_25 rfl rfl ?_
    refine ei_slen X hSc dL_law_26 ?_
    refine ei_bipush (v := 6) X dL_law_27 (by decide) ?_
    refine ei_isub X dL_law_29 ?_
    refine ei_icmp_gt (tgt := 1740) X dL_law_30 (by decide) (fun _ => hF2 x hF X k _) (fun hq => ?_)
    have hk6 : 6 * k + 6 ≤ L := Decidable.not_not.mp (fun z => hq ((l_more hL hk).mpr z))
    have hk7 : k < 512 := by omega
    have hV1 : l_V ((512 - (k + 1)) + 1) x := by rw [show 512 - (k + 1) + 1 = 512 - k by omega]; exact hV
    refine ei_aload_n (i := 0) (a := 1000) X dL_law_33 rfl rfl ?_
    refine ei_iload X dL_law_34 rfl ?_
    refine ei_sld X hSc dL_law_36 (by omega) hL ?_
    refine ei_bipush (v := 63) X dL_law_37 (by decide) ?_
    refine ei_iand X dL_law_39 ?_
    have next : ∀ (x2 : e_T), e_X x2 RL cL_law 18 → l_S x2 L xs → l_V (512 - (k + 1)) x2 → F x2 → ∀ g, l_K x2 k g := by
      intro x2 X2 hS2 hV2 hF2' g2 N2 D2 T2 im2 Z2 be2 M2 hR2
      refine ei_iinc (v := nI (6 * (k + 1))) X2 dL_law_1734 rfl ?_ rfl ?_
      · show nI (6 * k) + nI 6 = _
        rw [nI_add]
        rfl
      refine ei_goto (tgt := 23) X2 dL_law_1737 (by decide) ?_
      exact l_loop hF1 hF2 hL c (k + 1) x2 N2 D2 T2 im2 Z2 be2 g2 M2 (by omega) (by omega) (by omega) X2 hS2 hV2 hF2' hR2
    exact l_disp X hSc hL hk6 hR hV1 (next x X hSc (l_V_dn hV1) hF) (next (l_up x) (l_upX X (l_V_P hV1)) (l_upS hSc) (l_V_up hV1) (hF1 x hF))
