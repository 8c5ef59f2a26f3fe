/-! ===== the component's world ===== -/
section EM
variable {x : e_T} {own : String} {cc : ByteArray} {d pc : Nat} {ls : List (Option Value)} {st st0 : List Value} {h : List eC}
variable {y : MethodName} {cq2 : ByteArray} {L2 idx ci n : Nat} {ret : Option FieldType} {d2 : Nat} {As : List Value} {h1 h1' h' : List eC}
theorem ei_aaload_n {k n i a : Nat} {g : Nat → Option Nat} (X : e_X x own cc d) (hd : decode cc pc = .ok (.aaload, 1)) (hh : h[k]? = some (.inl (2, n, .inr (.inr (.inr (.inr g)))))) (hi : i < n) (hn : n < 2 ^ 31) (hg : g i = some a) (kk : e_E x (pc + 1) ls (.ref a :: st) h) : e_E x pc ls (.int (nI i) :: .ref k :: st) h :=
  ei_aaload X hd hh (vp_in_nI hi hn) (by rw [nI_clamp (Nat.lt_trans hi hn)]; exact hg) kk
theorem ei_cs2 {a : Int64} (rho : List Nat) (hget : rho.map (fun k => h[k]?) = h1.map (fun c => some (e_rn (e_rf rho) c))) (hput : e_put h rho (h1'.map (e_rn (e_rf rho))) = h') (X : e_X x own cc d) (ml : e_MS own idx y cq2 L2 ret n) (hd : decode cc pc = .ok (.invokestatic idx, 3)) (ct : e_Ct y cq2 L2 ret d2 As h1 (e_eq (some (.long a)) h1'))
    (hst : st0 = List.reverseAux (As.map (e_mv (e_rf rho))) st) (hn : As.length = n) (hd2 : d2 < d) (hL2 : L2 ≤ 21)
    (hcat : (st.map fun v => v.category).sum ≤ 8) (hnd : rho.Nodup) (kk : e_E x (pc + 3) ls (.long a :: st) h') : e_E x pc ls st0 h :=
  ei_callS X ml hd ct rho hst hn hd2 hL2 hcat hnd hget (fun r h2 _ hp => by obtain ⟨rfl, rfl⟩ := hp; rw [hput]; exact kk)
theorem ei_csR {a : Int32} {W W' : St → List eC} (rho : List Nat) (hget : rho.map (fun k => h[k]?) = h1.map (fun c => some (e_rn (e_rf rho) c))) (hput : ∀ S', e_put h rho ((W S').map (e_rn (e_rf rho))) = W' S') (X : e_X x own cc d) (ml : e_MS own idx y cq2 L2 ret n) (hd : decode cc pc = .ok (.invokestatic idx, 3)) (ct : e_Ct y cq2 L2 ret d2 As h1 (rP (.int a) W))
    (hst : st0 = List.reverseAux (As.map (e_mv (e_rf rho))) st) (hn : As.length = n) (hd2 : d2 < d) (hL2 : L2 ≤ 21)
    (hcat : (st.map fun v => v.category).sum ≤ 8) (hnd : rho.Nodup) (kk : ∀ S', e_E x (pc + 3) ls (.int a :: st) (W' S')) : e_E x pc ls st0 h :=
  ei_callS X ml hd ct rho hst hn hd2 hL2 hcat hnd hget (fun r h2 _ hp => by obtain ⟨rfl, S', rfl⟩ := hp; rw [hput]; exact kk S')
end EM
def oH (N D T : St) (im : Bool) (Z : Nat → Sh) (be : Nat → Int32) : List eC :=
  .inr (3, [.ref 1, .ref 5, .ref 9, .int (bz im), .ref 13, .ref 30]) :: (lHp 1 N ++ (lHp 5 D ++ (lHp 9 T ++ (.inl (2, 8, .inr (.inr (.inr (.inr fun j => some (14 + 2 * j))))) :: (shC 14 (Z 0) ++ (shC 16 (Z 1) ++ (shC 18 (Z 2) ++ (shC 20 (Z 3) ++ (shC 22 (Z 4) ++ (shC 24 (Z 5) ++ (shC 26 (Z 6) ++ (shC 28 (Z 7) ++ [.inr (0, [.ref 31]), .inl (0, 100, .inl be)]))))))))))))
abbrev lFp (o : Nat) (S : St) : List Value := [.ref (o + 1), .ref (o + 2), .ref (o + 3), .int (nI (sN S)), .int (sW S), .int (sE S), .int (sP S), .int (sH S), .int (sL S), .int (sD S), .int (sC S)]
section EO
variable (N D T : St) (im : Bool) (Z : Nat → Sh) (be : Nat → Int32)
theorem oH_gN : [1, 2, 3, 4].map (fun k => (oH N D T im Z be)[k]?) = (lH N).map (fun c => some (e_rn (e_rf [1, 2, 3, 4]) c)) := rfl
theorem oH_pN (S : St) : e_put (oH N D T im Z be) [1, 2, 3, 4] ((lH S).map (e_rn (e_rf [1, 2, 3, 4]))) = oH S D T im Z be := rfl
theorem oH_gD : [5, 6, 7, 8].map (fun k => (oH N D T im Z be)[k]?) = (lH D).map (fun c => some (e_rn (e_rf [5, 6, 7, 8]) c)) := rfl
theorem oH_pD (S : St) : e_put (oH N D T im Z be) [5, 6, 7, 8] ((lH S).map (e_rn (e_rf [5, 6, 7, 8]))) = oH N S T im Z be := rfl
theorem oH_gDN : [5, 6, 7, 8, 1, 2, 3, 4].map (fun k => (oH N D T im Z be)[k]?) = (ll D N).map (fun c => some (e_rn (e_rf [5, 6, 7, 8, 1, 2, 3, 4]) c)) := rfl
theorem oH_pDN (S : St) : e_put (oH N D T im Z be) [5, 6, 7, 8, 1, 2, 3, 4] ((ll S N).map (e_rn (e_rf [5, 6, 7, 8, 1, 2, 3, 4]))) = oH N S T im Z be := rfl
theorem oH_gTN : [9, 10, 11, 12, 1, 2, 3, 4].map (fun k => (oH N D T im Z be)[k]?) = (ll T N).map (fun c => some (e_rn (e_rf [9, 10, 11, 12, 1, 2, 3, 4]) c)) := rfl
theorem oH_pTN (S : St) : e_put (oH N D T im Z be) [9, 10, 11, 12, 1, 2, 3, 4] ((ll S N).map (e_rn (e_rf [9, 10, 11, 12, 1, 2, 3, 4]))) = oH N D S im Z be := rfl
theorem oH_gND : [1, 2, 3, 4, 5, 6, 7, 8].map (fun k => (oH N D T im Z be)[k]?) = (ll N D).map (fun c => some (e_rn (e_rf [1, 2, 3, 4, 5, 6, 7, 8]) c)) := rfl
theorem oH_pND (S : St) : e_put (oH N D T im Z be) [1, 2, 3, 4, 5, 6, 7, 8] ((ll S D).map (e_rn (e_rf [1, 2, 3, 4, 5, 6, 7, 8]))) = oH S D T im Z be := rfl
theorem oH_gNT : [1, 2, 3, 4, 9, 10, 11, 12].map (fun k => (oH N D T im Z be)[k]?) = (ll N T).map (fun c => some (e_rn (e_rf [1, 2, 3, 4, 9, 10, 11, 12]) c)) := rfl
theorem oH_pNT (S : St) : e_put (oH N D T im Z be) [1, 2, 3, 4, 9, 10, 11, 12] ((ll S T).map (e_rn (e_rf [1, 2, 3, 4, 9, 10, 11, 12]))) = oH S D T im Z be := rfl
theorem oH_gH : [30, 31].map (fun k => (oH N D T im Z be)[k]?) = (bH be).map (fun c => some (e_rn (e_rf [30, 31]) c)) := rfl
theorem oH_pH (g : Nat → Int32) : e_put (oH N D T im Z be) [30, 31] ((bH g).map (e_rn (e_rf [30, 31]))) = oH N D T im Z g := rfl
theorem oH_gHN : [30, 31, 1, 2, 3, 4].map (fun k => (oH N D T im Z be)[k]?) = (bl be N).map (fun c => some (e_rn (e_rf [30, 31, 1, 2, 3, 4]) c)) := rfl
theorem oH_pHN (g : Nat → Int32) : e_put (oH N D T im Z be) [30, 31, 1, 2, 3, 4] ((bl g N).map (e_rn (e_rf [30, 31, 1, 2, 3, 4]))) = oH N D T im Z g := rfl
theorem oH_sO {k : Nat} (hk : k < 8) : (oH N D T im Z be)[14 + 2 * k]? = some (.inr (2, zFl (14 + 2 * k) (Z k))) := by
  match k, hk with
  | 0, _ => rfl
  | 1, _ => rfl
  | 2, _ => rfl
  | 3, _ => rfl
  | 4, _ => rfl
  | 5, _ => rfl
  | 6, _ => rfl
  | 7, _ => rfl
theorem oH_sC {k : Nat} (hk : k < 8) : (oH N D T im Z be)[14 + 2 * k + 1]? = some (.inl (0, 100, .inl (zC (Z k)))) := by
  match k, hk with
  | 0, _ => rfl
  | 1, _ => rfl
  | 2, _ => rfl
  | 3, _ => rfl
  | 4, _ => rfl
  | 5, _ => rfl
  | 6, _ => rfl
  | 7, _ => rfl
theorem oH_gZ {k : Nat} (hk : k < 8) : [14 + 2 * k, 14 + 2 * k + 1].map (fun i => (oH N D T im Z be)[i]?) = (shC 0 (Z k)).map (fun c => some (e_rn (e_rf [14 + 2 * k, 14 + 2 * k + 1]) c)) := by
  show [(oH N D T im Z be)[14 + 2 * k]?, (oH N D T im Z be)[14 + 2 * k + 1]?] = _
  rw [oH_sO N D T im Z be hk, oH_sC N D T im Z be hk]
  rfl
theorem oH_pZ {k : Nat} (hk : k < 8) (z : Sh) : e_put (oH N D T im Z be) [14 + 2 * k, 14 + 2 * k + 1] ((shC 0 z).map (e_rn (e_rf [14 + 2 * k, 14 + 2 * k + 1]))) = oH N D T im (setZ Z k z) be := by
  match k, hk with
  | 0, _ => rfl
  | 1, _ => rfl
  | 2, _ => rfl
  | 3, _ => rfl
  | 4, _ => rfl
  | 5, _ => rfl
  | 6, _ => rfl
  | 7, _ => rfl
theorem setZ_id {k : Nat} : setZ Z k (Z k) = Z := by
  funext j
  unfold setZ
  split
  · rename_i q; rw [q]
  · rfl
theorem oH_pZ0 {k : Nat} (hk : k < 8) : e_put (oH N D T im Z be) [14 + 2 * k, 14 + 2 * k + 1] ((shC 0 (Z k)).map (e_rn (e_rf [14 + 2 * k, 14 + 2 * k + 1]))) = oH N D T im Z be := by
  rw [oH_pZ N D T im Z be hk, setZ_id]
theorem oH_setC {k : Nat} (hk : k < 8) (g : Nat → Int32) : (oH N D T im Z be).set (14 + 2 * k + 1) (.inl (0, 100, .inl g)) = oH N D T im (setZ Z k (zH (Z k), zS (Z k), zF (Z k), zK (Z k), zN (Z k), g)) be := by
  match k, hk with
  | 0, _ => rfl
  | 1, _ => rfl
  | 2, _ => rfl
  | 3, _ => rfl
  | 4, _ => rfl
  | 5, _ => rfl
  | 6, _ => rfl
  | 7, _ => rfl
theorem oH_gDZ {k : Nat} (hk : k < 8) : [5, 6, 7, 8, 14 + 2 * k, 14 + 2 * k + 1].map (fun i => (oH N D T im Z be)[i]?) = (lz D (Z k)).map (fun c => some (e_rn (e_rf [5, 6, 7, 8, 14 + 2 * k, 14 + 2 * k + 1]) c)) := by
  show [(oH N D T im Z be)[5]?, (oH N D T im Z be)[6]?, (oH N D T im Z be)[7]?, (oH N D T im Z be)[8]?, (oH N D T im Z be)[14 + 2 * k]?, (oH N D T im Z be)[14 + 2 * k + 1]?] = _
  rw [oH_sO N D T im Z be hk, oH_sC N D T im Z be hk]
  rfl
theorem oH_pDZ {k : Nat} (hk : k < 8) (S : St) : e_put (oH N D T im Z be) [5, 6, 7, 8, 14 + 2 * k, 14 + 2 * k + 1] ((lz S (Z k)).map (e_rn (e_rf [5, 6, 7, 8, 14 + 2 * k, 14 + 2 * k + 1]))) = oH N S T im Z be := by
  match k, hk with
  | 0, _ => rfl
  | 1, _ => rfl
  | 2, _ => rfl
  | 3, _ => rfl
  | 4, _ => rfl
  | 5, _ => rfl
  | 6, _ => rfl
  | 7, _ => rfl
theorem oH_gNZ {k : Nat} (hk : k < 8) : [1, 2, 3, 4, 14 + 2 * k, 14 + 2 * k + 1].map (fun i => (oH N D T im Z be)[i]?) = (lz N (Z k)).map (fun c => some (e_rn (e_rf [1, 2, 3, 4, 14 + 2 * k, 14 + 2 * k + 1]) c)) := by
  show [(oH N D T im Z be)[1]?, (oH N D T im Z be)[2]?, (oH N D T im Z be)[3]?, (oH N D T im Z be)[4]?, (oH N D T im Z be)[14 + 2 * k]?, (oH N D T im Z be)[14 + 2 * k + 1]?] = _
  rw [oH_sO N D T im Z be hk, oH_sC N D T im Z be hk]
  rfl
theorem oH_pNZ {k : Nat} (hk : k < 8) : e_put (oH N D T im Z be) [1, 2, 3, 4, 14 + 2 * k, 14 + 2 * k + 1] ((lz N (Z k)).map (e_rn (e_rf [1, 2, 3, 4, 14 + 2 * k, 14 + 2 * k + 1]))) = oH N D T im Z be := by
  match k, hk with
  | 0, _ => rfl
  | 1, _ => rfl
  | 2, _ => rfl
  | 3, _ => rfl
  | 4, _ => rfl
  | 5, _ => rfl
  | 6, _ => rfl
  | 7, _ => rfl
theorem po_N6 (v : Int32) : (oH N D T im Z be).set 1 (.inr (1, (lFp 1 N).set 6 (.int v))) = oH (sN N, sW N, sE N, v, sH N, sL N, sD N, sC N, sO N, sG N, sR N) D T im Z be := rfl
theorem po_D6 (v : Int32) : (oH N D T im Z be).set 5 (.inr (1, (lFp 5 D).set 6 (.int v))) = oH N (wiP D v) T im Z be := rfl
theorem po_N4 (g : Nat → Int32) : (oH N D T im Z be).set 4 (.inl (0, 10, .inl g)) = oH (sN N, sW N, sE N, sP N, sH N, sL N, sD N, sC N, sO N, sG N, g) D T im Z be := rfl
theorem po_D2 (g : Nat → Int32) : (oH N D T im Z be).set 6 (.inl (0, 10, .inl g)) = oH N (sN D, sW D, sE D, sP D, sH D, sL D, sD D, sC D, g, sG D, sR D) T im Z be := rfl
theorem po_D3 (g : Nat → Int32) : (oH N D T im Z be).set 7 (.inl (0, 10, .inl g)) = oH N (sN D, sW D, sE D, sP D, sH D, sL D, sD D, sC D, sO D, g, sR D) T im Z be := rfl
theorem po_D4 (g : Nat → Int32) : (oH N D T im Z be).set 8 (.inl (0, 10, .inl g)) = oH N (sN D, sW D, sE D, sP D, sH D, sL D, sD D, sC D, sO D, sG D, g) T im Z be := rfl
theorem po_im : (oH N D T im Z be).set 0 (.inr (3, ([.ref 1, .ref 5, .ref 9, .int (bz im), .ref 13, .ref 30] : List Value).set 3 (.int 1))) = oH N D T true Z be := rfl
end EO
theorem nd2 (k : Nat) : [14 + 2 * k, 14 + 2 * k + 1].Nodup := by simp
theorem nd6 (k : Nat) : [5, 6, 7, 8, 14 + 2 * k, 14 + 2 * k + 1].Nodup := by simp; omega
theorem nd6b (k : Nat) : [1, 2, 3, 4, 14 + 2 * k, 14 + 2 * k + 1].Nodup := by simp; omega
/-- what a call of the component leaves -/
def fP (v : Value) (N T : St) (im : Bool) (Z : Nat → Sh) : Option Value → List eC → Prop := fun r h => r = some v ∧ ∃ D be, dg0 be ∧ h = oH N D T im Z be

