def f_Shelf_isFull (w : cx_W) (k : Nat) : Int32 := if (nI (x_made w k)) < 20 then 0 else 1
set_option maxHeartbeats 4000000 in
set_option maxRecDepth 100000 in
theorem c_Shelf_isFull (l : Launch) (D : va_G) (dA : Nat → ClassId) (b0 : Nat) (w : cx_W) (k : Nat) (h_k : k < 6) : cd_Ct l D (cx_tys dA) b0 y_Shelf_isFull (.code y_Shelf_isFull b_Shelf_isFull 1 (some .boolean) :: cd_WA) { frames := 0, cells := 0, slots := 0, locals := 0 } [.ref (x_ad w 4 k)] (cx_dm w) (x_ad w) (cx_ce dA w) (cx_R dA (some (.int (f_Shelf_isFull w k))) w) 0 0 := by
  refine cd_Ct.of b_Shelf_isFull 1 (some .boolean) (by decide) rfl ?_
  intro p e s m below meth c hx hb hr hml hown hlocks hnm hA hE hb0 hW hS ls hl
  have hK := hE.1
  have hl : lv_has ls 1 [(0, .ref (x_ad w 4 k))] := hl
  refine lv_aload_n hx hb d_Shelf_isFull_0 rfl (lv_at hl 0 rfl) ?_
  refine cd_get (ci := 2) (C := R_Shelf) (T := F_Shelf) (N := 2) (v := .int (nI (x_made w k))) hx hb hA i_Shelf hown hK hW 4 k h_k rfl rfl 1 (by decide) mw_10 rfl rfl d_Shelf_isFull_1 ?_
  refine lv_bipush (v := 20) hx hb d_Shelf_isFull_4 (by decide) ?_
  refine lv_icmp_lt (tgt := 13) hx hb d_Shelf_isFull_6 (by decide) (fun c_1 => ?_) (fun c_1 => ?_)
  · skip
    refine lv_iconst (v := 0) hx hb d_Shelf_isFull_13 (by decide) ?_
    have hf : f_Shelf_isFull w k = 0 := by
      simp only [f_Shelf_isFull, if_pos c_1]
    exact cd_zret hx hb hr hlocks hW hS d_Shelf_isFull_14 (by decide) ⟨by rw [hf], rfl, rfl, rfl⟩ (Nat.le_of_ble_eq_true rfl) (Nat.le_of_ble_eq_true rfl)
  · skip
    refine lv_iconst (v := 1) hx hb d_Shelf_isFull_9 (by decide) ?_
    refine lv_goto (tgt := 14) hx hb d_Shelf_isFull_10 (by decide) ?_
    have hf : f_Shelf_isFull w k = 1 := by
      simp only [f_Shelf_isFull, if_neg c_1]
    exact cd_zret hx hb hr hlocks hW hS d_Shelf_isFull_14 (by decide) ⟨by rw [hf], rfl, rfl, rfl⟩ (Nat.le_of_ble_eq_true rfl) (Nat.le_of_ble_eq_true rfl)

def f_Shelf_put (w : cx_W) (k : Nat) (q : Nat) : cx_W := u_made (u_arr w k (x_made w k) (some q)) k (x_made w k + 1)
set_option maxHeartbeats 4000000 in
set_option maxRecDepth 100000 in
theorem c_Shelf_put (l : Launch) (D : va_G) (dA : Nat → ClassId) (b0 : Nat) (w : cx_W) (k : Nat) (q : Nat) (h_k : k < 6) (h_q : x_al w q) (hc : x_made w k < 20) : cd_Ct l D (cx_tys dA) b0 y_Shelf_put (.code y_Shelf_put b_Shelf_put 2 none :: cd_WA) { frames := 0, cells := 0, slots := 0, locals := 0 } [.ref (x_ad w 4 k), .ref (x_ad w 8 q)] (cx_dm w) (x_ad w) (cx_ce dA w) (cx_R dA none (f_Shelf_put w k q)) 0 0 := by
  refine cd_Ct.of b_Shelf_put 2 none (by decide) rfl ?_
  intro p e s m below meth c hx hb hr hml hown hlocks hnm hA hE hb0 hW hS ls hl
  have hK := hE.1
  have hl : lv_has ls 2 [(0, .ref (x_ad w 4 k)), (1, .ref (x_ad w 8 q))] := hl
  refine lv_aload_n hx hb d_Shelf_put_0 rfl (lv_at hl 0 rfl) ?_
  refine cd_get (ci := 2) (C := R_Shelf) (T := F_Shelf) (N := 2) (v := .int (nI (x_made w k))) hx hb hA i_Shelf hown hK hW 4 k h_k rfl rfl 1 (by decide) mw_10 rfl rfl d_Shelf_put_1 ?_
  refine lv_if_lt (tgt := 36) hx hb d_Shelf_put_4 (by decide) (fun c_1 => ?_) (fun c_1 => ?_)
  · skip
    exact absurd c_1 (nI_pos (by omega))
  · skip
    refine lv_aload_n hx hb d_Shelf_put_7 rfl (lv_at hl 0 rfl) ?_
    refine cd_get (ci := 2) (C := R_Shelf) (T := F_Shelf) (N := 2) (v := .int (nI (x_made w k))) hx hb hA i_Shelf hown hK hW 4 k h_k rfl rfl 1 (by decide) mw_10 rfl rfl d_Shelf_put_8 ?_
    refine lv_bipush (v := 20) hx hb d_Shelf_put_11 (by decide) ?_
    refine lv_icmp_ge (tgt := 36) hx hb d_Shelf_put_13 (by decide) (fun c_2 => ?_) (fun c_2 => ?_)
    · skip
      exact absurd c_2 (nI_ge (b := 20) hc (by decide))
    · skip
      refine lv_aload_n hx hb d_Shelf_put_16 rfl (lv_at hl 0 rfl) ?_
      refine cd_get (ci := 2) (C := R_Shelf) (T := F_Shelf) (N := 2) (v := .ref (x_ad w 5 k)) hx hb hA i_Shelf hown hK hW 4 k h_k rfl rfl 0 (by decide) mw_11 rfl rfl d_Shelf_put_17 ?_
      refine lv_aload_n hx hb d_Shelf_put_20 rfl (lv_at hl 0 rfl) ?_
      refine cd_get (ci := 2) (C := R_Shelf) (T := F_Shelf) (N := 2) (v := .int (nI (x_made w k))) hx hb hA i_Shelf hown hK hW 4 k h_k rfl rfl 1 (by decide) mw_10 rfl rfl d_Shelf_put_21 ?_
      refine lv_aload_n hx hb d_Shelf_put_24 rfl (lv_at hl 1 rfl) ?_
      refine cd_aast hx hb hK hW hS 5 k h_k 3 8 q h_q 3 rfl rfl rfl rfl (vp_in_nI hc (by decide)) d_Shelf_put_25 (cx_ce dA (u_arr w k (x_made w k) (some q))) (by rw [nw_arr, nI_clamp (by omega)]) (kp_arr dA w k (x_made w k) (some q)) (fun H locs hW hS => ?_)
      have hW : cx_Wo D dA b0 (u_arr w k (x_made w k) (some q)) H := to_arr hW
      refine lv_aload_n hx hb d_Shelf_put_26 rfl (lv_at hl 0 rfl) ?_
      refine lv_dup hx hb d_Shelf_put_27 rfl ?_
      refine cd_get (ci := 2) (C := R_Shelf) (T := F_Shelf) (N := 2) (v := .int (nI (x_made w k))) hx hb hA i_Shelf hown hK hW 4 k h_k rfl rfl 1 (by decide) mw_10 rfl rfl d_Shelf_put_28 ?_
      refine lv_iconst (v := 1) hx hb d_Shelf_put_31 (by decide) ?_
      refine lv_iadd hx hb d_Shelf_put_32 ?_
      refine cd_put (ci := 2) (C := R_Shelf) (T := F_Shelf) (N := 2) (v := .int ((nI (x_made w k)) + 1)) hx hb hA i_Shelf t_Shelf t_Shelf_ok n_Shelf hown hK hW hS 4 k h_k rfl rfl 1 (by decide) mw_10 rfl rfl rfl rfl (Nat.le_of_ble_eq_true rfl) d_Shelf_put_33 (cx_ce dA (u_made (u_arr w k (x_made w k) (some q)) k (x_made w k + 1))) (by rw [nw_made, nI_succ]; rfl) (kp_made dA (u_arr w k (x_made w k) (some q)) k (x_made w k + 1)) (fun H locs hW hS => ?_)
      have hW : cx_Wo D dA b0 (u_made (u_arr w k (x_made w k) (some q)) k (x_made w k + 1)) H := to_made hW
      have hf : f_Shelf_put w k q = (u_made (u_arr w k (x_made w k) (some q)) k (x_made w k + 1)) := by
        rfl
      exact cd_vret hx hb hr hlocks hW hS d_Shelf_put_36 ⟨rfl, by rw [hf], by rw [hf], by rw [hf]⟩ (Nat.le_of_ble_eq_true rfl) (Nat.le_of_ble_eq_true rfl)

def f_Shelf_at (w : cx_W) (k : Nat) (i : Int32) : Option Nat := if i < 0 then none else if i < 20 then (cd_oc (x_arr w k i.toNatClampNeg) none (fun j_4 => if (x_th w j_4) = 0 then none else some j_4)) else none
set_option maxHeartbeats 4000000 in
set_option maxRecDepth 100000 in
theorem c_Shelf_at (l : Launch) (D : va_G) (dA : Nat → ClassId) (b0 : Nat) (w : cx_W) (k : Nat) (i : Int32) (h_k : k < 6) (hI : cx_Iv w) : cd_Ct l D (cx_tys dA) b0 y_Shelf_at (.code y_Shelf_at b_Shelf_at 3 (some (.object "CarDesk$Thing")) :: cd_WA) { frames := 0, cells := 0, slots := 0, locals := 0 } [.ref (x_ad w 4 k), .int i] (cx_dm w) (x_ad w) (cx_ce dA w) (cx_R dA (some (va_rf ((f_Shelf_at w k i).map (x_ad w 8)))) w) 0 0 := by
  refine cd_Ct.of b_Shelf_at 3 (some (.object "CarDesk$Thing")) (by decide) rfl ?_
  intro p e s m below meth c hx hb hr hml hown hlocks hnm hA hE hb0 hW hS ls hl
  have hK := hE.1
  have hl : lv_has ls 3 [(0, .ref (x_ad w 4 k)), (1, .int i)] := hl
  refine lv_iload_n hx hb d_Shelf_at_0 rfl (lv_at hl 1 rfl) ?_
  refine lv_if_lt (tgt := 10) hx hb d_Shelf_at_1 (by decide) (fun c_1 => ?_) (fun c_1 => ?_)
  · skip
    refine lv_null hx hb d_Shelf_at_10 ?_
    have hf : f_Shelf_at w k i = none := by
      simp only [f_Shelf_at, if_pos c_1]
    exact cd_aret hx hb hr hlocks hW hS (Or.inl rfl) d_Shelf_at_11 ⟨by rw [hf]; rfl, rfl, rfl, rfl⟩ (Nat.le_of_ble_eq_true rfl) (Nat.le_of_ble_eq_true rfl)
  · skip
    refine lv_iload_n hx hb d_Shelf_at_4 rfl (lv_at hl 1 rfl) ?_
    refine lv_bipush (v := 20) hx hb d_Shelf_at_5 (by decide) ?_
    refine lv_icmp_lt (tgt := 12) hx hb d_Shelf_at_7 (by decide) (fun c_2 => ?_) (fun c_2 => ?_)
    · skip
      refine lv_aload_n hx hb d_Shelf_at_12 rfl (lv_at hl 0 rfl) ?_
      refine cd_get (ci := 2) (C := R_Shelf) (T := F_Shelf) (N := 2) (v := .ref (x_ad w 5 k)) hx hb hA i_Shelf hown hK hW 4 k h_k rfl rfl 0 (by decide) mw_11 rfl rfl d_Shelf_at_13 ?_
      refine lv_iload_n hx hb d_Shelf_at_16 rfl (lv_at hl 1 rfl) ?_
      refine cd_aald hx hb hK hW 5 k h_k 3 rfl rfl (cd_in2 20 (by decide) c_1 c_2) d_Shelf_at_17 ?_
      rcases ho_3 : (x_arr w k i.toNatClampNeg) with _ | j_4
      · skip
        refine lv_astore_nN (lv' := [(2, .null), (0, .ref (x_ad w 4 k)), (1, .int i)]) hx hb d_Shelf_at_18 rfl hl (by decide) rfl (fun ls hl => ?_)
        refine lv_aload_nN hx hb d_Shelf_at_19 rfl (lv_at hl 0 rfl) ?_
        refine lv_ifnullN (tgt := 34) hx hb d_Shelf_at_20 (by decide) ?_
        refine lv_null hx hb d_Shelf_at_34 ?_
        have hf : f_Shelf_at w k i = none := by
          simp only [f_Shelf_at, if_neg c_1, if_pos c_2, cd_oc_n ho_3]
        exact cd_aret hx hb hr hlocks hW hS (Or.inl rfl) d_Shelf_at_35 ⟨by rw [hf]; rfl, rfl, rfl, rfl⟩ (Nat.le_of_ble_eq_true rfl) (Nat.le_of_ble_eq_true rfl)
      · skip
        have h_j_4 : x_al w j_4 := hI.2.2.1 _ _ _ ho_3
        refine lv_astore_n (lv' := [(2, .ref (x_ad w 8 j_4)), (0, .ref (x_ad w 4 k)), (1, .int i)]) hx hb d_Shelf_at_18 rfl hl (by decide) rfl (fun ls hl => ?_)
        refine lv_aload_n hx hb d_Shelf_at_19 rfl (lv_at hl 0 rfl) ?_
        refine lv_ifnull hx hb d_Shelf_at_20 ?_
        refine lv_aload_n hx hb d_Shelf_at_23 rfl (lv_at hl 0 rfl) ?_
        refine cd_getN (ci := 3) (C := R_Thing) (T := F_Thing) (N := 5) (v := .int (x_th w j_4)) hx hb hA i_Thing hown hE hW 8 j_4 h_j_4 rfl rfl 4 (by decide) nn_0 rfl rfl d_Shelf_at_24 ?_
        refine lv_if_eq (tgt := 34) hx hb d_Shelf_at_27 (by decide) (fun c_5 => ?_) (fun c_5 => ?_)
        · skip
          refine lv_null hx hb d_Shelf_at_34 ?_
          have hf : f_Shelf_at w k i = none := by
            simp only [f_Shelf_at, if_neg c_1, if_pos c_2, cd_oc_s ho_3, if_pos c_5]
          exact cd_aret hx hb hr hlocks hW hS (Or.inl rfl) d_Shelf_at_35 ⟨by rw [hf]; rfl, rfl, rfl, rfl⟩ (Nat.le_of_ble_eq_true rfl) (Nat.le_of_ble_eq_true rfl)
        · skip
          refine lv_aload_n hx hb d_Shelf_at_30 rfl (lv_at hl 0 rfl) ?_
          refine lv_goto (tgt := 35) hx hb d_Shelf_at_31 (by decide) ?_
          have hf : f_Shelf_at w k i = some j_4 := by
            simp only [f_Shelf_at, if_neg c_1, if_pos c_2, cd_oc_s ho_3, if_neg c_5]
          exact cd_aret hx hb hr hlocks hW hS (Or.inr ⟨_, rfl⟩) d_Shelf_at_35 ⟨by rw [hf]; rfl, rfl, rfl, rfl⟩ (Nat.le_of_ble_eq_true rfl) (Nat.le_of_ble_eq_true rfl)
    · skip
      refine lv_null hx hb d_Shelf_at_10 ?_
      have hf : f_Shelf_at w k i = none := by
        simp only [f_Shelf_at, if_neg c_1, if_neg c_2]
      exact cd_aret hx hb hr hlocks hW hS (Or.inl rfl) d_Shelf_at_11 ⟨by rw [hf]; rfl, rfl, rfl, rfl⟩ (Nat.le_of_ble_eq_true rfl) (Nat.le_of_ble_eq_true rfl)
theorem al_Shelf_at {w : cx_W} (hI : cx_Iv w) {k : Nat} {i : Int32} {j : Nat} (h : f_Shelf_at w k i = some j) : x_al w j := by
  unfold f_Shelf_at at h
  split at h
  · cases h
  · split at h
    · cases ho : x_arr w k i.toNatClampNeg with
      | none => rw [cd_oc_n ho] at h; cases h
      | some q =>
        rw [cd_oc_s ho] at h
        split at h
        · cases h
        · cases h
          exact hI.2.2.1 _ _ _ ho
    · cases h

def f_ct_r (w : cx_W) (k : Nat) : Nat → Int32
  | 0 => 0
  | n + 1 => cd_oc (f_Shelf_at w k (nI n)) (f_ct_r w k n) (fun _ => f_ct_r w k n + 1)
def f_Shelf_countThere (w : cx_W) (k : Nat) : Int32 := f_ct_r w k 20
set_option maxHeartbeats 4000000 in
set_option maxRecDepth 100000 in
theorem c_Shelf_countThere (l : Launch) (D : va_G) (dA : Nat → ClassId) (b0 : Nat) (w : cx_W) (k : Nat) (h_k : k < 6) (hI : cx_Iv w) : cd_Ct l D (cx_tys dA) b0 y_Shelf_countThere (.code y_Shelf_countThere b_Shelf_countThere 3 (some .int) :: cd_WA) { frames := 1, cells := 0, slots := 0, locals := 22 } [.ref (x_ad w 4 k)] (cx_dm w) (x_ad w) (cx_ce dA w) (cx_R dA (some (.int (f_Shelf_countThere w k))) w) 0 0 := by
  refine cd_Ct.of b_Shelf_countThere 3 (some .int) (by decide) rfl ?_
  intro p e s m below meth c hx hb hr hml hown hlocks hnm hA hE hb0 hW hS ls hl
  have hK := hE.1
  have hl : lv_has ls 3 [(0, .ref (x_ad w 4 k))] := hl
  have loop : ∀ (d n : Nat), 20 = n + d → ∀ (ls : Array Slot) (H : Heap) (locs : List Loc), cx_Wo D dA b0 w H → va_S (cd_A b0) s.heap H locs → lv_has ls 3 [(2, .int (nI n)), (1, .int (f_ct_r w k n)), (0, .ref (x_ad w 4 k))] → W p l e { frames := 1, cells := 0, slots := 0, locals := 22 } s m ([.ref (x_ad w 4 k)] : List Value).toArray below meth c H locs 0 0 (MQ below (cd_Q D b0 (cx_R dA (some (.int (f_Shelf_countThere w k))) w)) ([.ref (x_ad w 4 k)] : List Value).toArray s 0 0 (cd_A b0)) (F0 m 4 ls []) := by
    intro d
    induction d with
    | zero =>
      intro n hn ls H locs hW hS hl
      have hn : 20 = n := hn
      refine lv_iload_n hx hb d_Shelf_countThere_4 rfl (lv_at hl 0 rfl) ?_
      refine lv_bipush (v := 20) hx hb d_Shelf_countThere_5 (by decide) ?_
      refine lv_icmp_ge (tgt := 27) hx hb d_Shelf_countThere_7 (by decide) (fun c_1 => ?_) (fun c_1 => ?_)
      · skip
        refine lv_iload_n hx hb d_Shelf_countThere_27 rfl (lv_at hl 1 rfl) ?_
        have hf : f_Shelf_countThere w k = (f_ct_r w k n) := by
          rw [f_Shelf_countThere, hn]
        exact cd_iret hx hb hr hlocks hW hS d_Shelf_countThere_28 ⟨by rw [hf], rfl, rfl, rfl⟩ (Nat.le_of_ble_eq_true rfl) (Nat.le_of_ble_eq_true rfl)
      · skip
        exact absurd (by rw [← hn]; decide) c_1
    | succ d ih =>
      intro n hn ls H locs hW hS hl
      refine lv_iload_n hx hb d_Shelf_countThere_4 rfl (lv_at hl 0 rfl) ?_
      refine lv_bipush (v := 20) hx hb d_Shelf_countThere_5 (by decide) ?_
      refine lv_icmp_ge (tgt := 27) hx hb d_Shelf_countThere_7 (by decide) (fun c_2 => ?_) (fun c_2 => ?_)
      · skip
        exact absurd c_2 (nI_ge (b := 20) (by omega) (by decide))
      · skip
        refine lv_aload_n hx hb d_Shelf_countThere_10 rfl (lv_at hl 2 rfl) ?_
        refine lv_iload_n hx hb d_Shelf_countThere_11 rfl (lv_at hl 0 rfl) ?_
        refine cx_cV (w0 := w) (x0 := va_rf ((f_Shelf_at w k (nI n)).map (x_ad w 8))) (rest := []) (n := 1) ⟨hx, hb, hml, hown, hA⟩ (cd_GA mw_12) hE hb0 hW hS 4 k h_k rfl rfl (c_Shelf_at l D dA b0 w k (nI n) h_k hI) mw_16 mw_14 mw_15 mw_13 (by decide +kernel) rfl rfl ⟨by decide, by decide⟩ rfl hl.1 rfl (Nat.le_of_ble_eq_true rfl) d_Shelf_countThere_12 ⟨by decide, by decide⟩ (fun H locs hW hS => ?_)
        rcases ho_3 : (f_Shelf_at w k (nI n)) with _ | j_4
        · skip
          refine lv_ifnullN (tgt := 21) hx hb d_Shelf_countThere_15 (by decide) ?_
          refine lv_iinc (v := (nI (n + 1))) (lv' := [(2, .int (nI (n + 1))), (1, .int (f_ct_r w k n)), (0, .ref (x_ad w 4 k))]) hx hb d_Shelf_countThere_21 hl (k := 0) rfl (by rw [show Int32.ofInt 1 = 1 by decide]; exact nI_1 _) (by decide) rfl (fun ls hl => ?_)
          refine lv_goto (tgt := 4) hx hb d_Shelf_countThere_24 (by decide) ?_
          exact ih (n + 1) (by omega) ls _ _ hW hS (lv_sub hl [0, 1, 2] (by simp only [lv_pick, List.filterMap_cons, List.filterMap_nil, List.getElem?_cons_zero, List.getElem?_cons_succ, f_ct_r, cd_oc_n ho_3]))
        · skip
          have h_j_4 : x_al w j_4 := al_Shelf_at hI ho_3
          refine lv_ifnull hx hb d_Shelf_countThere_15 ?_
          refine lv_iinc (v := ((f_ct_r w k n) + 1)) (lv' := [(1, .int ((f_ct_r w k n) + 1)), (2, .int (nI n)), (0, .ref (x_ad w 4 k))]) hx hb d_Shelf_countThere_18 hl (k := 1) rfl (by first | rfl | decide) (by decide) rfl (fun ls hl => ?_)
          refine lv_iinc (v := (nI (n + 1))) (lv' := [(2, .int (nI (n + 1))), (1, .int ((f_ct_r w k n) + 1)), (0, .ref (x_ad w 4 k))]) hx hb d_Shelf_countThere_21 hl (k := 1) rfl (by rw [show Int32.ofInt 1 = 1 by decide]; exact nI_1 _) (by decide) rfl (fun ls hl => ?_)
          refine lv_goto (tgt := 4) hx hb d_Shelf_countThere_24 (by decide) ?_
          exact ih (n + 1) (by omega) ls _ _ hW hS (lv_sub hl [0, 1, 2] (by simp only [lv_pick, List.filterMap_cons, List.filterMap_nil, List.getElem?_cons_zero, List.getElem?_cons_succ, f_ct_r, cd_oc_s ho_3]))
  refine lv_iconst (v := 0) hx hb d_Shelf_countThere_0 (by decide) ?_
  refine lv_istore_n (lv' := [(1, .int 0), (0, .ref (x_ad w 4 k))]) hx hb d_Shelf_countThere_1 rfl hl (by decide) rfl (fun ls hl => ?_)
  refine lv_iconst (v := 0) hx hb d_Shelf_countThere_2 (by decide) ?_
  refine lv_istore_n (lv' := [(2, .int 0), (1, .int 0), (0, .ref (x_ad w 4 k))]) hx hb d_Shelf_countThere_3 rfl hl (by decide) rfl (fun ls hl => ?_)
  exact loop 20 0 rfl ls _ _ hW hS (lv_sub hl [0, 1, 2] rfl)

def f_sm_r (w : cx_W) (k : Nat) : Nat → Int64
  | 0 => 0
  | n + 1 => cd_oc (f_Shelf_at w k (nI n)) (f_sm_r w k n) (fun j => f_sm_r w k n + x_st w j)
def f_Shelf_sumOfStates (w : cx_W) (k : Nat) : Int64 := f_sm_r w k 20
set_option maxHeartbeats 4000000 in
set_option maxRecDepth 100000 in
theorem c_Shelf_sumOfStates (l : Launch) (D : va_G) (dA : Nat → ClassId) (b0 : Nat) (w : cx_W) (k : Nat) (h_k : k < 6) (hI : cx_Iv w) : cd_Ct l D (cx_tys dA) b0 y_Shelf_sumOfStates (.code y_Shelf_sumOfStates b_Shelf_sumOfStates 5 (some .long) :: cd_WA) { frames := 1, cells := 0, slots := 0, locals := 22 } [.ref (x_ad w 4 k)] (cx_dm w) (x_ad w) (cx_ce dA w) (cx_R dA (some (.long (f_Shelf_sumOfStates w k))) w) 0 0 := by
  refine cd_Ct.of b_Shelf_sumOfStates 5 (some .long) (by decide) rfl ?_
  intro p e s m below meth c hx hb hr hml hown hlocks hnm hA hE hb0 hW hS ls hl
  have hK := hE.1
  have hl : lv_has ls 5 [(0, .ref (x_ad w 4 k))] := hl
  have loop : ∀ (d n : Nat), 20 = n + d → ∀ (ls : Array Slot) (H : Heap) (locs : List Loc), cx_Wo D dA b0 w H → va_S (cd_A b0) s.heap H locs → lv_has ls 5 [(3, .int (nI n)), (1, .long (f_sm_r w k n)), (0, .ref (x_ad w 4 k))] → W p l e { frames := 1, cells := 0, slots := 0, locals := 22 } s m ([.ref (x_ad w 4 k)] : List Value).toArray below meth c H locs 0 0 (MQ below (cd_Q D b0 (cx_R dA (some (.long (f_Shelf_sumOfStates w k))) w)) ([.ref (x_ad w 4 k)] : List Value).toArray s 0 0 (cd_A b0)) (F0 m 4 ls []) := by
    intro d
    induction d with
    | zero =>
      intro n hn ls H locs hW hS hl
      have hn : 20 = n := hn
      refine lv_iload_n hx hb d_Shelf_sumOfStates_4 rfl (lv_at hl 0 rfl) ?_
      refine lv_bipush (v := 20) hx hb d_Shelf_sumOfStates_5 (by decide) ?_
      refine lv_icmp_ge (tgt := 36) hx hb d_Shelf_sumOfStates_7 (by decide) (fun c_1 => ?_) (fun c_1 => ?_)
      · skip
        refine lv_lload_n hx hb d_Shelf_sumOfStates_36 rfl (lv_at hl 1 rfl) ?_
        have hf : f_Shelf_sumOfStates w k = (f_sm_r w k n) := by
          rw [f_Shelf_sumOfStates, hn]
        exact cd_lret hx hb hr hlocks hW hS d_Shelf_sumOfStates_37 ⟨by rw [hf], rfl, rfl, rfl⟩ (Nat.le_of_ble_eq_true rfl) (Nat.le_of_ble_eq_true rfl)
      · skip
        exact absurd (by rw [← hn]; decide) c_1
    | succ d ih =>
      intro n hn ls H locs hW hS hl
      refine lv_iload_n hx hb d_Shelf_sumOfStates_4 rfl (lv_at hl 0 rfl) ?_
      refine lv_bipush (v := 20) hx hb d_Shelf_sumOfStates_5 (by decide) ?_
      refine lv_icmp_ge (tgt := 36) hx hb d_Shelf_sumOfStates_7 (by decide) (fun c_2 => ?_) (fun c_2 => ?_)
      · skip
        exact absurd c_2 (nI_ge (b := 20) (by omega) (by decide))
      · skip
        refine lv_aload_n hx hb d_Shelf_sumOfStates_10 rfl (lv_at hl 2 rfl) ?_
        refine lv_iload_n hx hb d_Shelf_sumOfStates_11 rfl (lv_at hl 0 rfl) ?_
        refine cx_cV (w0 := w) (x0 := va_rf ((f_Shelf_at w k (nI n)).map (x_ad w 8))) (rest := []) (n := 1) ⟨hx, hb, hml, hown, hA⟩ (cd_GA mw_12) hE hb0 hW hS 4 k h_k rfl rfl (c_Shelf_at l D dA b0 w k (nI n) h_k hI) mw_16 mw_14 mw_15 mw_13 (by decide +kernel) rfl rfl ⟨by decide, by decide⟩ rfl hl.1 rfl (Nat.le_of_ble_eq_true rfl) d_Shelf_sumOfStates_12 ⟨by decide, by decide⟩ (fun H locs hW hS => ?_)
        rcases ho_3 : (f_Shelf_at w k (nI n)) with _ | j_4
        · skip
          refine lv_astoreN (lv' := [(4, .null), (3, .int (nI n)), (1, .long (f_sm_r w k n)), (0, .ref (x_ad w 4 k))]) hx hb d_Shelf_sumOfStates_15 hl (by decide) rfl (fun ls hl => ?_)
          refine lv_aloadN hx hb d_Shelf_sumOfStates_17 (lv_at hl 0 rfl) ?_
          refine lv_ifnullN (tgt := 30) hx hb d_Shelf_sumOfStates_19 (by decide) ?_
          refine lv_iinc (v := (nI (n + 1))) (lv' := [(3, .int (nI (n + 1))), (4, .null), (1, .long (f_sm_r w k n)), (0, .ref (x_ad w 4 k))]) hx hb d_Shelf_sumOfStates_30 hl (k := 1) rfl (by rw [show Int32.ofInt 1 = 1 by decide]; exact nI_1 _) (by decide) rfl (fun ls hl => ?_)
          refine lv_goto (tgt := 4) hx hb d_Shelf_sumOfStates_33 (by decide) ?_
          exact ih (n + 1) (by omega) ls _ _ hW hS (lv_sub hl [0, 2, 3] (by simp only [lv_pick, List.filterMap_cons, List.filterMap_nil, List.getElem?_cons_zero, List.getElem?_cons_succ, f_sm_r, cd_oc_n ho_3]))
        · skip
          have h_j_4 : x_al w j_4 := al_Shelf_at hI ho_3
          refine lv_astore (lv' := [(4, .ref (x_ad w 8 j_4)), (3, .int (nI n)), (1, .long (f_sm_r w k n)), (0, .ref (x_ad w 4 k))]) hx hb d_Shelf_sumOfStates_15 hl (by decide) rfl (fun ls hl => ?_)
          refine lv_aload hx hb d_Shelf_sumOfStates_17 (lv_at hl 0 rfl) ?_
          refine lv_ifnull hx hb d_Shelf_sumOfStates_19 ?_
          refine lv_lload_n hx hb d_Shelf_sumOfStates_22 rfl (lv_at hl 2 rfl) ?_
          refine lv_aload hx hb d_Shelf_sumOfStates_23 (lv_at hl 0 rfl) ?_
          refine cd_getN (ci := 3) (C := R_Thing) (T := F_Thing) (N := 5) (v := .long (x_st w j_4)) hx hb hA i_Thing hown hE hW 8 j_4 h_j_4 rfl rfl 1 (by decide) nn_1 rfl rfl d_Shelf_sumOfStates_25 ?_
          refine lv_ladd hx hb d_Shelf_sumOfStates_28 ?_
          refine lv_lstore_n (lv' := [(1, .long ((f_sm_r w k n) + (x_st w j_4))), (4, .ref (x_ad w 8 j_4)), (3, .int (nI n)), (0, .ref (x_ad w 4 k))]) hx hb d_Shelf_sumOfStates_29 rfl hl (by decide) rfl (fun ls hl => ?_)
          refine lv_iinc (v := (nI (n + 1))) (lv' := [(3, .int (nI (n + 1))), (1, .long ((f_sm_r w k n) + (x_st w j_4))), (4, .ref (x_ad w 8 j_4)), (0, .ref (x_ad w 4 k))]) hx hb d_Shelf_sumOfStates_30 hl (k := 2) rfl (by rw [show Int32.ofInt 1 = 1 by decide]; exact nI_1 _) (by decide) rfl (fun ls hl => ?_)
          refine lv_goto (tgt := 4) hx hb d_Shelf_sumOfStates_33 (by decide) ?_
          exact ih (n + 1) (by omega) ls _ _ hW hS (lv_sub hl [0, 1, 3] (by simp only [lv_pick, List.filterMap_cons, List.filterMap_nil, List.getElem?_cons_zero, List.getElem?_cons_succ, f_sm_r, cd_oc_s ho_3]))
  refine lv_lconst (v := 0) hx hb d_Shelf_sumOfStates_0 (by decide) ?_
  refine lv_lstore_n (lv' := [(1, .long 0), (0, .ref (x_ad w 4 k))]) hx hb d_Shelf_sumOfStates_1 rfl hl (by decide) rfl (fun ls hl => ?_)
  refine lv_iconst (v := 0) hx hb d_Shelf_sumOfStates_2 (by decide) ?_
  refine lv_istore_n (lv' := [(3, .int 0), (1, .long 0), (0, .ref (x_ad w 4 k))]) hx hb d_Shelf_sumOfStates_3 rfl hl (by decide) rfl (fun ls hl => ?_)
  exact loop 20 0 rfl ls _ _ hW hS (lv_sub hl [0, 1, 2] rfl)

def f_nw_r (w : cx_W) (k : Nat) : Nat → Option Nat
  | 0 => none
  | n + 1 => cd_oc (f_Shelf_at w k (nI n)) (f_nw_r w k n) (fun j => some j)
def f_Shelf_newest (w : cx_W) (k : Nat) : Option Nat := f_nw_r w k 20
set_option maxHeartbeats 4000000 in
set_option maxRecDepth 100000 in
theorem c_Shelf_newest (l : Launch) (D : va_G) (dA : Nat → ClassId) (b0 : Nat) (w : cx_W) (k : Nat) (h_k : k < 6) (hI : cx_Iv w) : cd_Ct l D (cx_tys dA) b0 y_Shelf_newest (.code y_Shelf_newest b_Shelf_newest 3 (some (.object "CarDesk$Thing")) :: cd_WA) { frames := 1, cells := 0, slots := 0, locals := 22 } [.ref (x_ad w 4 k)] (cx_dm w) (x_ad w) (cx_ce dA w) (cx_R dA (some (va_rf ((f_Shelf_newest w k).map (x_ad w 8)))) w) 0 0 := by
  refine cd_Ct.of b_Shelf_newest 3 (some (.object "CarDesk$Thing")) (by decide) rfl ?_
  intro p e s m below meth c hx hb hr hml hown hlocks hnm hA hE hb0 hW hS ls hl
  have hK := hE.1
  have hl : lv_has ls 3 [(0, .ref (x_ad w 4 k))] := hl
  have loop : ∀ (n : Nat), n ≤ 20 → f_Shelf_newest w k = f_nw_r w k n → ∀ (x : Int32), x = nI n + (-1) → ∀ (ls : Array Slot) (H : Heap) (locs : List Loc), cx_Wo D dA b0 w H → va_S (cd_A b0) s.heap H locs → lv_has ls 3 [(1, .int x), (0, .ref (x_ad w 4 k))] → W p l e { frames := 1, cells := 0, slots := 0, locals := 22 } s m ([.ref (x_ad w 4 k)] : List Value).toArray below meth c H locs 0 0 (MQ below (cd_Q D b0 (cx_R dA (some (va_rf ((f_Shelf_newest w k).map (x_ad w 8)))) w)) ([.ref (x_ad w 4 k)] : List Value).toArray s 0 0 (cd_A b0)) (F0 m 3 ls []) := by
    intro n
    induction n with
    | zero =>
      intro hn hf0 x hx0 ls H locs hW hS hl
      have hx0 : x = -1 := by rw [hx0]; decide
      subst hx0
      refine lv_iload_n hx hb d_Shelf_newest_3 rfl (lv_at hl 0 rfl) ?_
      refine lv_if_lt (tgt := 25) hx hb d_Shelf_newest_4 (by decide) (fun c_1 => ?_) (fun c_1 => ?_)
      · skip
        refine lv_null hx hb d_Shelf_newest_25 ?_
        have hf : f_Shelf_newest w k = none := by
          rw [hf0]; rfl
        exact cd_aret hx hb hr hlocks hW hS (Or.inl rfl) d_Shelf_newest_26 ⟨by rw [hf]; rfl, rfl, rfl, rfl⟩ (Nat.le_of_ble_eq_true rfl) (Nat.le_of_ble_eq_true rfl)
      · skip
        exact absurd (by decide) c_1
    | succ n ih =>
      intro hn hf0 x hx0 ls H locs hW hS hl
      have hx0 : x = nI n := by rw [hx0]; exact pk_m1 n
      subst hx0
      refine lv_iload_n hx hb d_Shelf_newest_3 rfl (lv_at hl 0 rfl) ?_
      refine lv_if_lt (tgt := 25) hx hb d_Shelf_newest_4 (by decide) (fun c_2 => ?_) (fun c_2 => ?_)
      · skip
        exact absurd c_2 (nI_pos (by omega))
      · skip
        refine lv_aload_n hx hb d_Shelf_newest_7 rfl (lv_at hl 1 rfl) ?_
        refine lv_iload_n hx hb d_Shelf_newest_8 rfl (lv_at hl 0 rfl) ?_
        refine cx_cV (w0 := w) (x0 := va_rf ((f_Shelf_at w k (nI n)).map (x_ad w 8))) (rest := []) (n := 1) ⟨hx, hb, hml, hown, hA⟩ (cd_GA mw_12) hE hb0 hW hS 4 k h_k rfl rfl (c_Shelf_at l D dA b0 w k (nI n) h_k hI) mw_16 mw_14 mw_15 mw_13 (by decide +kernel) rfl rfl ⟨by decide, by decide⟩ rfl hl.1 rfl (Nat.le_of_ble_eq_true rfl) d_Shelf_newest_9 ⟨by decide, by decide⟩ (fun H locs hW hS => ?_)
        rcases ho_3 : (f_Shelf_at w k (nI n)) with _ | j_4
        · skip
          refine lv_astore_nN (lv' := [(2, .null), (1, .int (nI n)), (0, .ref (x_ad w 4 k))]) hx hb d_Shelf_newest_12 rfl hl (by decide) rfl (fun ls hl => ?_)
          refine lv_aload_nN hx hb d_Shelf_newest_13 rfl (lv_at hl 0 rfl) ?_
          refine lv_ifnullN (tgt := 19) hx hb d_Shelf_newest_14 (by decide) ?_
          refine lv_iinc (v := (nI n + (-1))) (lv' := [(1, .int (nI n + (-1))), (2, .null), (0, .ref (x_ad w 4 k))]) hx hb d_Shelf_newest_19 hl (k := 1) rfl (by rw [show Int32.ofInt (-1) = -1 by decide]) (by decide) rfl (fun ls hl => ?_)
          refine lv_goto (tgt := 3) hx hb d_Shelf_newest_22 (by decide) ?_
          exact ih (by omega) (by rw [hf0]; simp only [f_nw_r, cd_oc_n ho_3]) _ rfl ls _ _ hW hS (lv_sub hl [0, 2] rfl)
        · skip
          have h_j_4 : x_al w j_4 := al_Shelf_at hI ho_3
          refine lv_astore_n (lv' := [(2, .ref (x_ad w 8 j_4)), (1, .int (nI n)), (0, .ref (x_ad w 4 k))]) hx hb d_Shelf_newest_12 rfl hl (by decide) rfl (fun ls hl => ?_)
          refine lv_aload_n hx hb d_Shelf_newest_13 rfl (lv_at hl 0 rfl) ?_
          refine lv_ifnull hx hb d_Shelf_newest_14 ?_
          refine lv_aload_n hx hb d_Shelf_newest_17 rfl (lv_at hl 0 rfl) ?_
          have hf : f_Shelf_newest w k = some j_4 := by
            rw [hf0]; simp only [f_nw_r, cd_oc_s ho_3]
          exact cd_aret hx hb hr hlocks hW hS (Or.inr ⟨_, rfl⟩) d_Shelf_newest_18 ⟨by rw [hf]; rfl, rfl, rfl, rfl⟩ (Nat.le_of_ble_eq_true rfl) (Nat.le_of_ble_eq_true rfl)
  refine lv_bipush (v := 19) hx hb d_Shelf_newest_0 (by decide) ?_
  refine lv_istore_n (lv' := [(1, .int 19), (0, .ref (x_ad w 4 k))]) hx hb d_Shelf_newest_2 rfl hl (by decide) rfl (fun ls hl => ?_)
  exact loop 20 (Nat.le_refl _) rfl 19 (by decide) ls _ _ hW hS (lv_sub hl [0, 1] rfl)
theorem al_nw_r {w : cx_W} (hI : cx_Iv w) {k : Nat} {j : Nat} : ∀ n, f_nw_r w k n = some j → x_al w j
  | 0, h => by cases h
  | n + 1, h => by
    simp only [f_nw_r] at h
    cases ho : f_Shelf_at w k (nI n) with
    | none => rw [cd_oc_n ho] at h; exact al_nw_r hI n h
    | some q => rw [cd_oc_s ho] at h; cases h; exact al_Shelf_at hI ho
theorem al_Shelf_newest {w : cx_W} (hI : cx_Iv w) {k : Nat} {j : Nat} (h : f_Shelf_newest w k = some j) : x_al w j := al_nw_r hI 20 h

