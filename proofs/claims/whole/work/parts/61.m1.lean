def f_Model_numbers0 (w : cm_W) (x : Int32) : Int32 × cm_W := (0, u_mc w 0 0)
set_option maxHeartbeats 4000000 in
set_option maxRecDepth 100000 in
theorem c_Model_numbers0 (l : Launch) (D : va_G) (dA : Nat → ClassId) (b0 : Nat) (w : cm_W) (x : Int32) (hk : ¬ vp_in x 6) : cd_Ct l D (cx_tys dA) b0 y_Model_numbers (.code y_Model_numbers b_Model_numbers 4 (some .int) :: cd_WA) { frames := 0, cells := 0, slots := 0, locals := 0 } [.ref (m_ad w 9 0), .int x] (cm_dm w) (m_ad w) (cm_ce dA w) (cm_R dA (some (.int (f_Model_numbers0 w x).1)) (f_Model_numbers0 w x).2) 0 0 := by
  refine cd_Ct.of b_Model_numbers 4 (some .int) (by decide) rfl ?_
  intro p e s m below meth c hx hb hr hml hown hlocks hnm hA hE hb0 hW hS ls hl
  have hK := hE.1
  have hl : lv_has ls 4 [(0, .ref (m_ad w 9 0)), (1, .int x)] := hl
  refine lv_aload_n hx hb d_Model_numbers_0 rfl (lv_at hl 0 rfl) ?_
  refine lv_iconst (v := 0) hx hb d_Model_numbers_1 (by decide) ?_
  refine cd_put (ci := 4) (C := R_Model) (T := F_Model) (N := 20) (v := .int 0) hx hb hA i_Model t_Model t_Model_ok n_Model hown hK hW hS 9 0 rfl rfl rfl 0 (by decide) mw_172 rfl rfl rfl rfl (Nat.le_of_ble_eq_true rfl) d_Model_numbers_2 (cm_ce dA (u_mc w 0 0)) rfl (kp_mc dA w 0 0) (fun H locs hW hS => ?_)
  have hW : cm_Wo D dA b0 (u_mc w 0 0) H := to_mc hW
  refine lv_iconst (v := 0) hx hb d_Model_numbers_5 (by decide) ?_
  refine lv_istore_n (lv' := [(2, .int 0), (0, .ref (m_ad w 9 0)), (1, .int x)]) hx hb d_Model_numbers_6 rfl hl (by decide) rfl (fun ls hl => ?_)
  refine lv_bipush (v := 64) hx hb d_Model_numbers_7 (by decide) ?_
  refine lv_iload_n hx hb d_Model_numbers_9 rfl (lv_at hl 2 rfl) ?_
  refine lv_imul hx hb d_Model_numbers_10 ?_
  refine lv_iconst (v := 1) hx hb d_Model_numbers_11 (by decide) ?_
  refine lv_iadd hx hb d_Model_numbers_12 ?_
  refine lv_istore_n (lv' := [(3, .int ((64 * x) + 1)), (2, .int 0), (0, .ref (m_ad w 9 0)), (1, .int x)]) hx hb d_Model_numbers_13 rfl hl (by decide) rfl (fun ls hl => ?_)
  refine lv_iload_n hx hb d_Model_numbers_14 rfl (lv_at hl 0 rfl) ?_
  refine lv_bipush (v := 64) hx hb d_Model_numbers_15 (by decide) ?_
  refine lv_iload_n hx hb d_Model_numbers_17 rfl (lv_at hl 3 rfl) ?_
  refine lv_imul hx hb d_Model_numbers_18 ?_
  refine lv_bipush (v := 20) hx hb d_Model_numbers_19 (by decide) ?_
  refine lv_iadd hx hb d_Model_numbers_21 ?_
  refine lv_icmp_gt (tgt := 58) hx hb d_Model_numbers_22 (by decide) (fun c_1 => ?_) (fun c_1 => ?_)
  · skip
    refine lv_iload_n hx hb d_Model_numbers_58 rfl (lv_at hl 1 rfl) ?_
    have hf : f_Model_numbers0 w x = (0, (u_mc w 0 0)) := by
      rfl
    exact cd_iret hx hb hr hlocks hW hS d_Model_numbers_59 ⟨by rw [hf], by rw [hf], by rw [hf], by rw [hf]⟩ (Nat.le_of_ble_eq_true rfl) (Nat.le_of_ble_eq_true rfl)
  · skip
    refine lv_iload_n hx hb d_Model_numbers_25 rfl (lv_at hl 3 rfl) ?_
    refine lv_if_lt (tgt := 58) hx hb d_Model_numbers_26 (by decide) (fun c_2 => ?_) (fun c_2 => ?_)
    · skip
      refine lv_iload_n hx hb d_Model_numbers_58 rfl (lv_at hl 1 rfl) ?_
      have hf : f_Model_numbers0 w x = (0, (u_mc w 0 0)) := by
        rfl
      exact cd_iret hx hb hr hlocks hW hS d_Model_numbers_59 ⟨by rw [hf], by rw [hf], by rw [hf], by rw [hf]⟩ (Nat.le_of_ble_eq_true rfl) (Nat.le_of_ble_eq_true rfl)
    · skip
      refine lv_iload_n hx hb d_Model_numbers_29 rfl (lv_at hl 3 rfl) ?_
      refine lv_bipush (v := 6) hx hb d_Model_numbers_30 (by decide) ?_
      refine lv_icmp_ge (tgt := 58) hx hb d_Model_numbers_32 (by decide) (fun c_3 => ?_) (fun c_3 => ?_)
      · skip
        refine lv_iload_n hx hb d_Model_numbers_58 rfl (lv_at hl 1 rfl) ?_
        have hf : f_Model_numbers0 w x = (0, (u_mc w 0 0)) := by
          rfl
        exact cd_iret hx hb hr hlocks hW hS d_Model_numbers_59 ⟨by rw [hf], by rw [hf], by rw [hf], by rw [hf]⟩ (Nat.le_of_ble_eq_true rfl) (Nat.le_of_ble_eq_true rfl)
      · skip
        exact absurd (cd_out hk c_2) c_3


def f_Model_stateOfLetters (w : cm_W) (cc : Nat) : Int64 := f_hash_r (x_mi w 0) cc
set_option maxHeartbeats 4000000 in
set_option maxRecDepth 100000 in
theorem c_Model_stateOfLetters (l : Launch) (D : va_G) (dA : Nat → ClassId) (b0 : Nat) (w : cm_W) (cc : Nat) (hc : x_mi w 3 0 = nI cc) (hc2 : cc ≤ 200) : cd_Ct l D (cx_tys dA) b0 y_Model_stateOfLetters (.code y_Model_stateOfLetters b_Model_stateOfLetters 4 (some .long) :: cd_WA) { frames := 0, cells := 0, slots := 0, locals := 0 } [.ref (m_ad w 9 0)] (cm_dm w) (m_ad w) (cm_ce dA w) (cm_R dA (some (.long (f_Model_stateOfLetters w cc))) w) 0 0 := by
  refine cd_Ct.of b_Model_stateOfLetters 4 (some .long) (by decide) rfl ?_
  intro p e s m below meth c hx hb hr hml hown hlocks hnm hA hE hb0 hW hS ls hl
  have hK := hE.1
  have hl : lv_has ls 4 [(0, .ref (m_ad w 9 0))] := hl
  have loop : ∀ (d n : Nat), cc = n + d → ∀ (ls : Array Slot) (H : Heap) (locs : List Loc), cm_Wo D dA b0 w H → va_S (cd_A b0) s.heap H locs → lv_has ls 4 [(3, .int (nI n)), (1, .long (f_hash_r (x_mi w 0) n)), (0, .ref (m_ad w 9 0))] → W p l e { frames := 0, cells := 0, slots := 0, locals := 0 } s m ([.ref (m_ad w 9 0)] : List Value).toArray below meth c H locs 0 0 (MQ below (cd_Q D b0 (cm_R dA (some (.long (f_Model_stateOfLetters w cc))) w)) ([.ref (m_ad w 9 0)] : List Value).toArray s 0 0 (cd_A b0)) (F0 m 6 ls []) := by
    intro d
    induction d with
    | zero =>
      intro n hn ls H locs hW hS hl
      have hn : cc = n := hn
      refine lv_iload_n hx hb d_Model_stateOfLetters_6 rfl (lv_at hl 0 rfl) ?_
      refine lv_aload_n hx hb d_Model_stateOfLetters_7 rfl (lv_at hl 2 rfl) ?_
      refine cd_get (ci := 4) (C := R_Model) (T := F_Model) (N := 20) (v := .ref (m_ad w 10 3)) hx hb hA i_Model hown hK hW 9 0 rfl rfl rfl 4 (by decide) mw_190 rfl rfl d_Model_stateOfLetters_8 ?_
      refine lv_iconst (v := 0) hx hb d_Model_stateOfLetters_11 (by decide) ?_
      refine cd_iald hx hb hK hW 10 3 (show (3 : Nat) < 11 from by decide) 0 rfl rfl (vp_in_nI (n := 0) (by decide) (by decide)) d_Model_stateOfLetters_12 ?_
      rw [show ((0 : Int32)).toNatClampNeg = 0 by decide, hc]
      refine lv_icmp_ge (tgt := 36) hx hb d_Model_stateOfLetters_13 (by decide) (fun c_1 => ?_) (fun c_1 => ?_)
      · skip
        refine lv_lload_n hx hb d_Model_stateOfLetters_36 rfl (lv_at hl 1 rfl) ?_
        have hf : f_Model_stateOfLetters w cc = (f_hash_r (x_mi w 0) n) := by
          rw [f_Model_stateOfLetters, hn]
        exact cd_lret hx hb hr hlocks hW hS d_Model_stateOfLetters_37 ⟨by rw [hf], rfl, rfl, rfl⟩ (Nat.le_of_ble_eq_true rfl) (Nat.le_of_ble_eq_true rfl)
      · skip
        exact absurd (nI_le (by omega) (by omega)) c_1
    | succ d ih =>
      intro n hn ls H locs hW hS hl
      refine lv_iload_n hx hb d_Model_stateOfLetters_6 rfl (lv_at hl 0 rfl) ?_
      refine lv_aload_n hx hb d_Model_stateOfLetters_7 rfl (lv_at hl 2 rfl) ?_
      refine cd_get (ci := 4) (C := R_Model) (T := F_Model) (N := 20) (v := .ref (m_ad w 10 3)) hx hb hA i_Model hown hK hW 9 0 rfl rfl rfl 4 (by decide) mw_190 rfl rfl d_Model_stateOfLetters_8 ?_
      refine lv_iconst (v := 0) hx hb d_Model_stateOfLetters_11 (by decide) ?_
      refine cd_iald hx hb hK hW 10 3 (show (3 : Nat) < 11 from by decide) 0 rfl rfl (vp_in_nI (n := 0) (by decide) (by decide)) d_Model_stateOfLetters_12 ?_
      rw [show ((0 : Int32)).toNatClampNeg = 0 by decide, hc]
      refine lv_icmp_ge (tgt := 36) hx hb d_Model_stateOfLetters_13 (by decide) (fun c_2 => ?_) (fun c_2 => ?_)
      · skip
        exact absurd c_2 (nI_ge (by omega) (by omega))
      · skip
        refine lv_ldc2 (v := 31) hx hb hown (hA _ mw_192) d_Model_stateOfLetters_16 ?_
        refine lv_lload_n hx hb d_Model_stateOfLetters_19 rfl (lv_at hl 1 rfl) ?_
        refine lv_lmul hx hb d_Model_stateOfLetters_20 ?_
        refine lv_aload_n hx hb d_Model_stateOfLetters_21 rfl (lv_at hl 2 rfl) ?_
        refine cd_get (ci := 4) (C := R_Model) (T := F_Model) (N := 20) (v := .ref (m_ad w 10 0)) hx hb hA i_Model hown hK hW 9 0 rfl rfl rfl 1 (by decide) mw_193 rfl rfl d_Model_stateOfLetters_22 ?_
        refine lv_iload_n hx hb d_Model_stateOfLetters_25 rfl (lv_at hl 0 rfl) ?_
        refine cd_iald hx hb hK hW 10 0 (show (0 : Nat) < 11 from by decide) 0 rfl rfl (vp_in_nI (show n < 200 by omega) (by decide)) d_Model_stateOfLetters_26 ?_
        rw [nI_clamp (show n < 2 ^ 31 by omega)]
        refine lv_i2l hx hb d_Model_stateOfLetters_27 rfl ?_
        refine lv_ladd hx hb d_Model_stateOfLetters_28 ?_
        refine lv_lstore_n (lv' := [(1, .long ((31 * (f_hash_r (x_mi w 0) n)) + ((x_mi w 0 n).toInt64))), (3, .int (nI n)), (0, .ref (m_ad w 9 0))]) hx hb d_Model_stateOfLetters_29 rfl hl (by decide) rfl (fun ls hl => ?_)
        refine lv_iinc (v := (nI (n + 1))) (lv' := [(3, .int (nI (n + 1))), (1, .long ((31 * (f_hash_r (x_mi w 0) n)) + ((x_mi w 0 n).toInt64))), (0, .ref (m_ad w 9 0))]) hx hb d_Model_stateOfLetters_30 hl (k := 1) rfl (by rw [show Int32.ofInt 1 = 1 by decide]; exact nI_1 _) (by decide) rfl (fun ls hl => ?_)
        refine lv_goto (tgt := 6) hx hb d_Model_stateOfLetters_33 (by decide) ?_
        exact ih (n + 1) (by omega) ls _ _ hW hS (lv_sub hl [0, 1, 2] rfl)
  refine lv_ldc2 (v := 7) hx hb hown (hA _ mw_194) d_Model_stateOfLetters_0 ?_
  refine lv_lstore_n (lv' := [(1, .long 7), (0, .ref (m_ad w 9 0))]) hx hb d_Model_stateOfLetters_3 rfl hl (by decide) rfl (fun ls hl => ?_)
  refine lv_iconst (v := 0) hx hb d_Model_stateOfLetters_4 (by decide) ?_
  refine lv_istore_n (lv' := [(3, .int 0), (1, .long 7), (0, .ref (m_ad w 9 0))]) hx hb d_Model_stateOfLetters_5 rfl hl (by decide) rfl (fun ls hl => ?_)
  exact loop (cc) 0 (by omega) ls _ _ hW hS (lv_sub hl [0, 1, 2] rfl)

def f_mk_r (v : Nat → Int32) : Nat → Int64 × Int64
  | 0 => (1, 0)
  | n + 1 => (((f_mk_r v n).1 + (v n).toInt64) - ((f_mk_r v n).1 + (v n).toInt64) / 65521 * 65521, ((f_mk_r v n).2 + (((f_mk_r v n).1 + (v n).toInt64) - ((f_mk_r v n).1 + (v n).toInt64) / 65521 * 65521)) - ((f_mk_r v n).2 + (((f_mk_r v n).1 + (v n).toInt64) - ((f_mk_r v n).1 + (v n).toInt64) / 65521 * 65521)) / 65521 * 65521)
def f_Model_stateOfBytes (w : cm_W) (cc : Nat) : Int64 := 65536 * (f_mk_r (x_mi w 2) cc).2 + (f_mk_r (x_mi w 2) cc).1
set_option maxHeartbeats 4000000 in
set_option maxRecDepth 100000 in
theorem c_Model_stateOfBytes (l : Launch) (D : va_G) (dA : Nat → ClassId) (b0 : Nat) (w : cm_W) (cc : Nat) (hc : x_mi w 3 2 = nI cc) (hc2 : cc ≤ 200) : cd_Ct l D (cx_tys dA) b0 y_Model_stateOfBytes (.code y_Model_stateOfBytes b_Model_stateOfBytes 6 (some .long) :: cd_WA) { frames := 0, cells := 0, slots := 0, locals := 0 } [.ref (m_ad w 9 0)] (cm_dm w) (m_ad w) (cm_ce dA w) (cm_R dA (some (.long (f_Model_stateOfBytes w cc))) w) 0 0 := by
  refine cd_Ct.of b_Model_stateOfBytes 6 (some .long) (by decide) rfl ?_
  intro p e s m below meth c hx hb hr hml hown hlocks hnm hA hE hb0 hW hS ls hl
  have hK := hE.1
  have hl : lv_has ls 6 [(0, .ref (m_ad w 9 0))] := hl
  have loop : ∀ (d n : Nat), cc = n + d → ∀ (ls : Array Slot) (H : Heap) (locs : List Loc), cm_Wo D dA b0 w H → va_S (cd_A b0) s.heap H locs → lv_has ls 6 [(5, .int (nI n)), (3, .long ((f_mk_r (x_mi w 2) n).2)), (1, .long ((f_mk_r (x_mi w 2) n).1)), (0, .ref (m_ad w 9 0))] → W p l e { frames := 0, cells := 0, slots := 0, locals := 0 } s m ([.ref (m_ad w 9 0)] : List Value).toArray below meth c H locs 0 0 (MQ below (cd_Q D b0 (cm_R dA (some (.long (f_Model_stateOfBytes w cc))) w)) ([.ref (m_ad w 9 0)] : List Value).toArray s 0 0 (cd_A b0)) (F0 m 7 ls []) := by
    intro d
    induction d with
    | zero =>
      intro n hn ls H locs hW hS hl
      have hn : cc = n := hn
      refine lv_iload hx hb d_Model_stateOfBytes_7 (lv_at hl 0 rfl) ?_
      refine lv_aload_n hx hb d_Model_stateOfBytes_9 rfl (lv_at hl 3 rfl) ?_
      refine cd_get (ci := 4) (C := R_Model) (T := F_Model) (N := 20) (v := .ref (m_ad w 10 3)) hx hb hA i_Model hown hK hW 9 0 rfl rfl rfl 4 (by decide) mw_190 rfl rfl d_Model_stateOfBytes_10 ?_
      refine lv_iconst (v := 2) hx hb d_Model_stateOfBytes_13 (by decide) ?_
      refine cd_iald hx hb hK hW 10 3 (show (3 : Nat) < 11 from by decide) 0 rfl rfl (vp_in_nI (n := 2) (by decide) (by decide)) d_Model_stateOfBytes_14 ?_
      rw [show ((2 : Int32)).toNatClampNeg = 2 by decide, hc]
      refine lv_icmp_ge (tgt := 47) hx hb d_Model_stateOfBytes_15 (by decide) (fun c_1 => ?_) (fun c_1 => ?_)
      · skip
        refine lv_ldc2 (v := 65536) hx hb hown (hA _ mw_195) d_Model_stateOfBytes_47 ?_
        refine lv_lload_n hx hb d_Model_stateOfBytes_50 rfl (lv_at hl 1 rfl) ?_
        refine lv_lmul hx hb d_Model_stateOfBytes_51 ?_
        refine lv_lload_n hx hb d_Model_stateOfBytes_52 rfl (lv_at hl 2 rfl) ?_
        refine lv_ladd hx hb d_Model_stateOfBytes_53 ?_
        have hf : f_Model_stateOfBytes w cc = ((65536 * ((f_mk_r (x_mi w 2) n).2)) + ((f_mk_r (x_mi w 2) n).1)) := by
          rw [f_Model_stateOfBytes, hn]
        exact cd_lret hx hb hr hlocks hW hS d_Model_stateOfBytes_54 ⟨by rw [hf], rfl, rfl, rfl⟩ (Nat.le_of_ble_eq_true rfl) (Nat.le_of_ble_eq_true rfl)
      · skip
        exact absurd (nI_le (by omega) (by omega)) c_1
    | succ d ih =>
      intro n hn ls H locs hW hS hl
      refine lv_iload hx hb d_Model_stateOfBytes_7 (lv_at hl 0 rfl) ?_
      refine lv_aload_n hx hb d_Model_stateOfBytes_9 rfl (lv_at hl 3 rfl) ?_
      refine cd_get (ci := 4) (C := R_Model) (T := F_Model) (N := 20) (v := .ref (m_ad w 10 3)) hx hb hA i_Model hown hK hW 9 0 rfl rfl rfl 4 (by decide) mw_190 rfl rfl d_Model_stateOfBytes_10 ?_
      refine lv_iconst (v := 2) hx hb d_Model_stateOfBytes_13 (by decide) ?_
      refine cd_iald hx hb hK hW 10 3 (show (3 : Nat) < 11 from by decide) 0 rfl rfl (vp_in_nI (n := 2) (by decide) (by decide)) d_Model_stateOfBytes_14 ?_
      rw [show ((2 : Int32)).toNatClampNeg = 2 by decide, hc]
      refine lv_icmp_ge (tgt := 47) hx hb d_Model_stateOfBytes_15 (by decide) (fun c_2 => ?_) (fun c_2 => ?_)
      · skip
        exact absurd c_2 (nI_ge (by omega) (by omega))
      · skip
        refine lv_lload_n hx hb d_Model_stateOfBytes_18 rfl (lv_at hl 2 rfl) ?_
        refine lv_aload_n hx hb d_Model_stateOfBytes_19 rfl (lv_at hl 3 rfl) ?_
        refine cd_get (ci := 4) (C := R_Model) (T := F_Model) (N := 20) (v := .ref (m_ad w 10 2)) hx hb hA i_Model hown hK hW 9 0 rfl rfl rfl 3 (by decide) mw_196 rfl rfl d_Model_stateOfBytes_20 ?_
        refine lv_iload hx hb d_Model_stateOfBytes_23 (lv_at hl 0 rfl) ?_
        refine cd_iald hx hb hK hW 10 2 (show (2 : Nat) < 11 from by decide) 0 rfl rfl (vp_in_nI (show n < 200 by omega) (by decide)) d_Model_stateOfBytes_25 ?_
        rw [nI_clamp (show n < 2 ^ 31 by omega)]
        refine lv_i2l hx hb d_Model_stateOfBytes_26 rfl ?_
        refine lv_ladd hx hb d_Model_stateOfBytes_27 ?_
        refine lv_ldc2 (v := 65521) hx hb hown (hA _ mw_197) d_Model_stateOfBytes_28 ?_
        refine lv_lrem hx hb d_Model_stateOfBytes_31 (by decide) ?_
        refine lv_lstore_n (lv' := [(1, .long ((((f_mk_r (x_mi w 2) n).1) + ((x_mi w 2 n).toInt64)) - (((f_mk_r (x_mi w 2) n).1) + ((x_mi w 2 n).toInt64)) / 65521 * 65521)), (5, .int (nI n)), (3, .long ((f_mk_r (x_mi w 2) n).2)), (0, .ref (m_ad w 9 0))]) hx hb d_Model_stateOfBytes_32 rfl hl (by decide) rfl (fun ls hl => ?_)
        refine lv_lload_n hx hb d_Model_stateOfBytes_33 rfl (lv_at hl 2 rfl) ?_
        refine lv_lload_n hx hb d_Model_stateOfBytes_34 rfl (lv_at hl 0 rfl) ?_
        refine lv_ladd hx hb d_Model_stateOfBytes_35 ?_
        refine lv_ldc2 (v := 65521) hx hb hown (hA _ mw_197) d_Model_stateOfBytes_36 ?_
        refine lv_lrem hx hb d_Model_stateOfBytes_39 (by decide) ?_
        refine lv_lstore_n (lv' := [(3, .long ((((f_mk_r (x_mi w 2) n).2) + ((((f_mk_r (x_mi w 2) n).1) + ((x_mi w 2 n).toInt64)) - (((f_mk_r (x_mi w 2) n).1) + ((x_mi w 2 n).toInt64)) / 65521 * 65521)) - (((f_mk_r (x_mi w 2) n).2) + ((((f_mk_r (x_mi w 2) n).1) + ((x_mi w 2 n).toInt64)) - (((f_mk_r (x_mi w 2) n).1) + ((x_mi w 2 n).toInt64)) / 65521 * 65521)) / 65521 * 65521)), (1, .long ((((f_mk_r (x_mi w 2) n).1) + ((x_mi w 2 n).toInt64)) - (((f_mk_r (x_mi w 2) n).1) + ((x_mi w 2 n).toInt64)) / 65521 * 65521)), (5, .int (nI n)), (0, .ref (m_ad w 9 0))]) hx hb d_Model_stateOfBytes_40 rfl hl (by decide) rfl (fun ls hl => ?_)
        refine lv_iinc (v := (nI (n + 1))) (lv' := [(5, .int (nI (n + 1))), (3, .long ((((f_mk_r (x_mi w 2) n).2) + ((((f_mk_r (x_mi w 2) n).1) + ((x_mi w 2 n).toInt64)) - (((f_mk_r (x_mi w 2) n).1) + ((x_mi w 2 n).toInt64)) / 65521 * 65521)) - (((f_mk_r (x_mi w 2) n).2) + ((((f_mk_r (x_mi w 2) n).1) + ((x_mi w 2 n).toInt64)) - (((f_mk_r (x_mi w 2) n).1) + ((x_mi w 2 n).toInt64)) / 65521 * 65521)) / 65521 * 65521)), (1, .long ((((f_mk_r (x_mi w 2) n).1) + ((x_mi w 2 n).toInt64)) - (((f_mk_r (x_mi w 2) n).1) + ((x_mi w 2 n).toInt64)) / 65521 * 65521)), (0, .ref (m_ad w 9 0))]) hx hb d_Model_stateOfBytes_41 hl (k := 2) rfl (by rw [show Int32.ofInt 1 = 1 by decide]; exact nI_1 _) (by decide) rfl (fun ls hl => ?_)
        refine lv_goto (tgt := 7) hx hb d_Model_stateOfBytes_44 (by decide) ?_
        exact ih (n + 1) (by omega) ls _ _ hW hS (lv_sub hl [0, 1, 2, 3] rfl)
  refine lv_lconst (v := 1) hx hb d_Model_stateOfBytes_0 (by decide) ?_
  refine lv_lstore_n (lv' := [(1, .long 1), (0, .ref (m_ad w 9 0))]) hx hb d_Model_stateOfBytes_1 rfl hl (by decide) rfl (fun ls hl => ?_)
  refine lv_lconst (v := 0) hx hb d_Model_stateOfBytes_2 (by decide) ?_
  refine lv_lstore_n (lv' := [(3, .long 0), (1, .long 1), (0, .ref (m_ad w 9 0))]) hx hb d_Model_stateOfBytes_3 rfl hl (by decide) rfl (fun ls hl => ?_)
  refine lv_iconst (v := 0) hx hb d_Model_stateOfBytes_4 (by decide) ?_
  refine lv_istore (lv' := [(5, .int 0), (3, .long 0), (1, .long 1), (0, .ref (m_ad w 9 0))]) hx hb d_Model_stateOfBytes_5 hl (by decide) rfl (fun ls hl => ?_)
  exact loop (cc) 0 (by omega) ls _ _ hW hS (lv_sub hl [0, 1, 2, 3] rfl)

def f_mb_r (v : Nat → Int32) : Nat → Int64
  | 0 => 0
  | n + 1 => f_mb_r v n + (1000 * (v n).toInt64 + (if nI n ≤ 0 then 0 else if v n = v ((nI n - 1).toNatClampNeg) then 0 else 1))
def f_Model_stateOfBits (w : cm_W) (cc : Nat) : Int64 := f_mb_r (x_mi w 1) cc
set_option maxHeartbeats 4000000 in
set_option maxRecDepth 100000 in
theorem c_Model_stateOfBits (l : Launch) (D : va_G) (dA : Nat → ClassId) (b0 : Nat) (w : cm_W) (cc : Nat) (hc : x_mi w 3 1 = nI cc) (hc2 : cc ≤ 200) : cd_Ct l D (cx_tys dA) b0 y_Model_stateOfBits (.code y_Model_stateOfBits b_Model_stateOfBits 4 (some .long) :: cd_WA) { frames := 0, cells := 0, slots := 0, locals := 0 } [.ref (m_ad w 9 0)] (cm_dm w) (m_ad w) (cm_ce dA w) (cm_R dA (some (.long (f_Model_stateOfBits w cc))) w) 0 0 := by
  refine cd_Ct.of b_Model_stateOfBits 4 (some .long) (by decide) rfl ?_
  intro p e s m below meth c hx hb hr hml hown hlocks hnm hA hE hb0 hW hS ls hl
  have hK := hE.1
  have hl : lv_has ls 4 [(0, .ref (m_ad w 9 0))] := hl
  have loop : ∀ (d n : Nat), cc = n + d → ∀ (ls : Array Slot) (H : Heap) (locs : List Loc), cm_Wo D dA b0 w H → va_S (cd_A b0) s.heap H locs → lv_has ls 4 [(3, .int (nI n)), (1, .long (f_mb_r (x_mi w 1) n)), (0, .ref (m_ad w 9 0))] → W p l e { frames := 0, cells := 0, slots := 0, locals := 0 } s m ([.ref (m_ad w 9 0)] : List Value).toArray below meth c H locs 0 0 (MQ below (cd_Q D b0 (cm_R dA (some (.long (f_Model_stateOfBits w cc))) w)) ([.ref (m_ad w 9 0)] : List Value).toArray s 0 0 (cd_A b0)) (F0 m 4 ls []) := by
    intro d
    induction d with
    | zero =>
      intro n hn ls H locs hW hS hl
      have hn : cc = n := hn
      refine lv_iload_n hx hb d_Model_stateOfBits_4 rfl (lv_at hl 0 rfl) ?_
      refine lv_aload_n hx hb d_Model_stateOfBits_5 rfl (lv_at hl 2 rfl) ?_
      refine cd_get (ci := 4) (C := R_Model) (T := F_Model) (N := 20) (v := .ref (m_ad w 10 3)) hx hb hA i_Model hown hK hW 9 0 rfl rfl rfl 4 (by decide) mw_190 rfl rfl d_Model_stateOfBits_6 ?_
      refine lv_iconst (v := 1) hx hb d_Model_stateOfBits_9 (by decide) ?_
      refine cd_iald hx hb hK hW 10 3 (show (3 : Nat) < 11 from by decide) 0 rfl rfl (vp_in_nI (n := 1) (by decide) (by decide)) d_Model_stateOfBits_10 ?_
      rw [show ((1 : Int32)).toNatClampNeg = 1 by decide, hc]
      refine lv_icmp_ge (tgt := 61) hx hb d_Model_stateOfBits_11 (by decide) (fun c_1 => ?_) (fun c_1 => ?_)
      · skip
        refine lv_lload_n hx hb d_Model_stateOfBits_61 rfl (lv_at hl 1 rfl) ?_
        have hf : f_Model_stateOfBits w cc = (f_mb_r (x_mi w 1) n) := by
          rw [f_Model_stateOfBits, hn]
        exact cd_lret hx hb hr hlocks hW hS d_Model_stateOfBits_62 ⟨by rw [hf], rfl, rfl, rfl⟩ (Nat.le_of_ble_eq_true rfl) (Nat.le_of_ble_eq_true rfl)
      · skip
        exact absurd (nI_le (by omega) (by omega)) c_1
    | succ d ih =>
      intro n hn ls H locs hW hS hl
      refine lv_iload_n hx hb d_Model_stateOfBits_4 rfl (lv_at hl 0 rfl) ?_
      refine lv_aload_n hx hb d_Model_stateOfBits_5 rfl (lv_at hl 2 rfl) ?_
      refine cd_get (ci := 4) (C := R_Model) (T := F_Model) (N := 20) (v := .ref (m_ad w 10 3)) hx hb hA i_Model hown hK hW 9 0 rfl rfl rfl 4 (by decide) mw_190 rfl rfl d_Model_stateOfBits_6 ?_
      refine lv_iconst (v := 1) hx hb d_Model_stateOfBits_9 (by decide) ?_
      refine cd_iald hx hb hK hW 10 3 (show (3 : Nat) < 11 from by decide) 0 rfl rfl (vp_in_nI (n := 1) (by decide) (by decide)) d_Model_stateOfBits_10 ?_
      rw [show ((1 : Int32)).toNatClampNeg = 1 by decide, hc]
      refine lv_icmp_ge (tgt := 61) hx hb d_Model_stateOfBits_11 (by decide) (fun c_2 => ?_) (fun c_2 => ?_)
      · skip
        exact absurd c_2 (nI_ge (by omega) (by omega))
      · skip
        refine lv_lload_n hx hb d_Model_stateOfBits_14 rfl (lv_at hl 1 rfl) ?_
        refine lv_ldc2 (v := 1000) hx hb hown (hA _ mw_198) d_Model_stateOfBits_15 ?_
        refine lv_aload_n hx hb d_Model_stateOfBits_18 rfl (lv_at hl 2 rfl) ?_
        refine cd_get (ci := 4) (C := R_Model) (T := F_Model) (N := 20) (v := .ref (m_ad w 10 1)) hx hb hA i_Model hown hK hW 9 0 rfl rfl rfl 2 (by decide) mw_199 rfl rfl d_Model_stateOfBits_19 ?_
        refine lv_iload_n hx hb d_Model_stateOfBits_22 rfl (lv_at hl 0 rfl) ?_
        refine cd_iald hx hb hK hW 10 1 (show (1 : Nat) < 11 from by decide) 0 rfl rfl (vp_in_nI (show n < 200 by omega) (by decide)) d_Model_stateOfBits_23 ?_
        rw [nI_clamp (show n < 2 ^ 31 by omega)]
        refine lv_i2l hx hb d_Model_stateOfBits_24 rfl ?_
        refine lv_lmul hx hb d_Model_stateOfBits_25 ?_
        refine lv_iload_n hx hb d_Model_stateOfBits_26 rfl (lv_at hl 0 rfl) ?_
        refine lv_if_le (tgt := 51) hx hb d_Model_stateOfBits_27 (by decide) (fun c_3 => ?_) (fun c_3 => ?_)
        · skip
          refine lv_lconst (v := 0) hx hb d_Model_stateOfBits_51 (by decide) ?_
          refine lv_ladd hx hb d_Model_stateOfBits_52 ?_
          refine lv_ladd hx hb d_Model_stateOfBits_53 ?_
          refine lv_lstore_n (lv' := [(1, .long ((f_mb_r (x_mi w 1) n) + ((1000 * ((x_mi w 1 n).toInt64)) + 0))), (3, .int (nI n)), (0, .ref (m_ad w 9 0))]) hx hb d_Model_stateOfBits_54 rfl hl (by decide) rfl (fun ls hl => ?_)
          refine lv_iinc (v := (nI (n + 1))) (lv' := [(3, .int (nI (n + 1))), (1, .long ((f_mb_r (x_mi w 1) n) + ((1000 * ((x_mi w 1 n).toInt64)) + 0))), (0, .ref (m_ad w 9 0))]) hx hb d_Model_stateOfBits_55 hl (k := 1) rfl (by rw [show Int32.ofInt 1 = 1 by decide]; exact nI_1 _) (by decide) rfl (fun ls hl => ?_)
          refine lv_goto (tgt := 4) hx hb d_Model_stateOfBits_58 (by decide) ?_
          exact ih (n + 1) (by omega) ls _ _ hW hS (lv_sub hl [0, 1, 2] (by simp only [lv_pick, List.filterMap_cons, List.filterMap_nil, List.getElem?_cons_zero, List.getElem?_cons_succ, f_mb_r, if_pos c_3]))
        · skip
          refine lv_aload_n hx hb d_Model_stateOfBits_30 rfl (lv_at hl 2 rfl) ?_
          refine cd_get (ci := 4) (C := R_Model) (T := F_Model) (N := 20) (v := .ref (m_ad w 10 1)) hx hb hA i_Model hown hK hW 9 0 rfl rfl rfl 2 (by decide) mw_199 rfl rfl d_Model_stateOfBits_31 ?_
          refine lv_iload_n hx hb d_Model_stateOfBits_34 rfl (lv_at hl 0 rfl) ?_
          refine cd_iald hx hb hK hW 10 1 (show (1 : Nat) < 11 from by decide) 0 rfl rfl (vp_in_nI (show n < 200 by omega) (by decide)) d_Model_stateOfBits_35 ?_
          rw [nI_clamp (show n < 2 ^ 31 by omega)]
          refine lv_aload_n hx hb d_Model_stateOfBits_36 rfl (lv_at hl 2 rfl) ?_
          refine cd_get (ci := 4) (C := R_Model) (T := F_Model) (N := 20) (v := .ref (m_ad w 10 1)) hx hb hA i_Model hown hK hW 9 0 rfl rfl rfl 2 (by decide) mw_199 rfl rfl d_Model_stateOfBits_37 ?_
          refine lv_iload_n hx hb d_Model_stateOfBits_40 rfl (lv_at hl 0 rfl) ?_
          refine lv_iconst (v := 1) hx hb d_Model_stateOfBits_41 (by decide) ?_
          refine lv_isub hx hb d_Model_stateOfBits_42 ?_
          refine cd_iald hx hb hK hW 10 1 (show (1 : Nat) < 11 from by decide) 0 rfl rfl (by
          obtain ⟨m, rfl⟩ : ∃ m, n = m + 1 := ⟨n - 1, by
            have : n ≠ 0 := fun q => c_3 (by rw [q]; decide)
            omega⟩
          rw [nI_pred]
          exact vp_in_nI (show m < 200 by omega) (by decide)) d_Model_stateOfBits_43 ?_
          refine lv_icmp_eq (tgt := 51) hx hb d_Model_stateOfBits_44 (by decide) (fun c_4 => ?_) (fun c_4 => ?_)
          · skip
            refine lv_lconst (v := 0) hx hb d_Model_stateOfBits_51 (by decide) ?_
            refine lv_ladd hx hb d_Model_stateOfBits_52 ?_
            refine lv_ladd hx hb d_Model_stateOfBits_53 ?_
            refine lv_lstore_n (lv' := [(1, .long ((f_mb_r (x_mi w 1) n) + ((1000 * ((x_mi w 1 n).toInt64)) + 0))), (3, .int (nI n)), (0, .ref (m_ad w 9 0))]) hx hb d_Model_stateOfBits_54 rfl hl (by decide) rfl (fun ls hl => ?_)
            refine lv_iinc (v := (nI (n + 1))) (lv' := [(3, .int (nI (n + 1))), (1, .long ((f_mb_r (x_mi w 1) n) + ((1000 * ((x_mi w 1 n).toInt64)) + 0))), (0, .ref (m_ad w 9 0))]) hx hb d_Model_stateOfBits_55 hl (k := 1) rfl (by rw [show Int32.ofInt 1 = 1 by decide]; exact nI_1 _) (by decide) rfl (fun ls hl => ?_)
            refine lv_goto (tgt := 4) hx hb d_Model_stateOfBits_58 (by decide) ?_
            exact ih (n + 1) (by omega) ls _ _ hW hS (lv_sub hl [0, 1, 2] (by simp only [lv_pick, List.filterMap_cons, List.filterMap_nil, List.getElem?_cons_zero, List.getElem?_cons_succ, f_mb_r, if_neg c_3, if_pos c_4]))
          · skip
            refine lv_lconst (v := 1) hx hb d_Model_stateOfBits_47 (by decide) ?_
            refine lv_goto (tgt := 52) hx hb d_Model_stateOfBits_48 (by decide) ?_
            refine lv_ladd hx hb d_Model_stateOfBits_52 ?_
            refine lv_ladd hx hb d_Model_stateOfBits_53 ?_
            refine lv_lstore_n (lv' := [(1, .long ((f_mb_r (x_mi w 1) n) + ((1000 * ((x_mi w 1 n).toInt64)) + 1))), (3, .int (nI n)), (0, .ref (m_ad w 9 0))]) hx hb d_Model_stateOfBits_54 rfl hl (by decide) rfl (fun ls hl => ?_)
            refine lv_iinc (v := (nI (n + 1))) (lv' := [(3, .int (nI (n + 1))), (1, .long ((f_mb_r (x_mi w 1) n) + ((1000 * ((x_mi w 1 n).toInt64)) + 1))), (0, .ref (m_ad w 9 0))]) hx hb d_Model_stateOfBits_55 hl (k := 1) rfl (by rw [show Int32.ofInt 1 = 1 by decide]; exact nI_1 _) (by decide) rfl (fun ls hl => ?_)
            refine lv_goto (tgt := 4) hx hb d_Model_stateOfBits_58 (by decide) ?_
            exact ih (n + 1) (by omega) ls _ _ hW hS (lv_sub hl [0, 1, 2] (by simp only [lv_pick, List.filterMap_cons, List.filterMap_nil, List.getElem?_cons_zero, List.getElem?_cons_succ, f_mb_r, if_neg c_3, if_neg c_4]))
  refine lv_lconst (v := 0) hx hb d_Model_stateOfBits_0 (by decide) ?_
  refine lv_lstore_n (lv' := [(1, .long 0), (0, .ref (m_ad w 9 0))]) hx hb d_Model_stateOfBits_1 rfl hl (by decide) rfl (fun ls hl => ?_)
  refine lv_iconst (v := 0) hx hb d_Model_stateOfBits_2 (by decide) ?_
  refine lv_istore_n (lv' := [(3, .int 0), (1, .long 0), (0, .ref (m_ad w 9 0))]) hx hb d_Model_stateOfBits_3 rfl hl (by decide) rfl (fun ls hl => ?_)
  exact loop (cc) 0 (by omega) ls _ _ hW hS (lv_sub hl [0, 1, 2] rfl)

def f_us_r (w : cm_W) (x : Int32) : Nat → Int32
  | 0 => 0
  | n + 1 => if f_us_r w x n = 0 then (if x_mi w 6 n = 0 then 0 else if x_mi w 9 n = x then 1 else 0) else 1
def f_Model_isUsed (w : cm_W) (x : Int32) : Int32 := f_us_r w x 384
theorem us_01 (w : cm_W) (x : Int32) : ∀ n, f_us_r w x n = 0 ∨ f_us_r w x n = 1
  | 0 => Or.inl rfl
  | n + 1 => by
    unfold f_us_r
    repeat' split
    all_goals first | exact Or.inl rfl | exact Or.inr rfl
set_option maxHeartbeats 4000000 in
set_option maxRecDepth 100000 in
theorem c_Model_isUsed (l : Launch) (D : va_G) (dA : Nat → ClassId) (b0 : Nat) (w : cm_W) (x : Int32) : cd_Ct l D (cx_tys dA) b0 y_Model_isUsed (.code y_Model_isUsed b_Model_isUsed 4 (some .boolean) :: cd_WA) { frames := 0, cells := 0, slots := 0, locals := 0 } [.ref (m_ad w 9 0), .int x] (cm_dm w) (m_ad w) (cm_ce dA w) (cm_R dA (some (.int (f_Model_isUsed w x))) w) 0 0 := by
  refine cd_Ct.of b_Model_isUsed 4 (some .boolean) (by decide) rfl ?_
  intro p e s m below meth c hx hb hr hml hown hlocks hnm hA hE hb0 hW hS ls hl
  have hK := hE.1
  have hl : lv_has ls 4 [(0, .ref (m_ad w 9 0)), (1, .int x)] := hl
  have loop : ∀ (d n : Nat), 384 = n + d → ∀ (ls : Array Slot) (H : Heap) (locs : List Loc), cm_Wo D dA b0 w H → va_S (cd_A b0) s.heap H locs → lv_has ls 4 [(3, .int (nI n)), (2, .int (f_us_r w x n)), (0, .ref (m_ad w 9 0)), (1, .int x)] → W p l e { frames := 0, cells := 0, slots := 0, locals := 0 } s m ([.ref (m_ad w 9 0), .int x] : List Value).toArray below meth c H locs 0 0 (MQ below (cd_Q D b0 (cm_R dA (some (.int (f_Model_isUsed w x))) w)) ([.ref (m_ad w 9 0), .int x] : List Value).toArray s 0 0 (cd_A b0)) (F0 m 4 ls []) := by
    intro d
    induction d with
    | zero =>
      intro n hn ls H locs hW hS hl
      have hn : 384 = n := hn
      refine lv_iload_n hx hb d_Model_isUsed_4 rfl (lv_at hl 0 rfl) ?_
      refine lv_sipush (v := 384) hx hb d_Model_isUsed_5 (by decide) ?_
      refine lv_icmp_ge (tgt := 46) hx hb d_Model_isUsed_8 (by decide) (fun c_1 => ?_) (fun c_1 => ?_)
      · skip
        refine lv_iload_n hx hb d_Model_isUsed_46 rfl (lv_at hl 1 rfl) ?_
        have hf : f_Model_isUsed w x = (f_us_r w x n) := by
          rw [f_Model_isUsed, hn]
        exact cd_zret hx hb hr hlocks hW hS d_Model_isUsed_47 (by rcases us_01 w x n with q | q <;> rw [q] <;> decide) ⟨by rw [hf], rfl, rfl, rfl⟩ (Nat.le_of_ble_eq_true rfl) (Nat.le_of_ble_eq_true rfl)
      · skip
        exact absurd (by rw [← hn]; decide) c_1
    | succ d ih =>
      intro n hn ls H locs hW hS hl
      refine lv_iload_n hx hb d_Model_isUsed_4 rfl (lv_at hl 0 rfl) ?_
      refine lv_sipush (v := 384) hx hb d_Model_isUsed_5 (by decide) ?_
      refine lv_icmp_ge (tgt := 46) hx hb d_Model_isUsed_8 (by decide) (fun c_2 => ?_) (fun c_2 => ?_)
      · skip
        exact absurd c_2 (nI_ge (b := 384) (by omega) (by decide))
      · skip
        refine lv_iload_n hx hb d_Model_isUsed_11 rfl (lv_at hl 1 rfl) ?_
        refine lv_if_ne (tgt := 34) hx hb d_Model_isUsed_12 (by decide) (fun c_3 => ?_) (fun c_3 => ?_)
        · skip
          refine lv_iconst (v := 1) hx hb d_Model_isUsed_34 (by decide) ?_
          refine lv_goto (tgt := 39) hx hb d_Model_isUsed_35 (by decide) ?_
          refine lv_istore_n (lv' := [(2, .int 1), (3, .int (nI n)), (0, .ref (m_ad w 9 0)), (1, .int x)]) hx hb d_Model_isUsed_39 rfl hl (by decide) rfl (fun ls hl => ?_)
          refine lv_iinc (v := (nI (n + 1))) (lv' := [(3, .int (nI (n + 1))), (2, .int 1), (0, .ref (m_ad w 9 0)), (1, .int x)]) hx hb d_Model_isUsed_40 hl (k := 1) rfl (by rw [show Int32.ofInt 1 = 1 by decide]; exact nI_1 _) (by decide) rfl (fun ls hl => ?_)
          refine lv_goto (tgt := 4) hx hb d_Model_isUsed_43 (by decide) ?_
          exact ih (n + 1) (by omega) ls _ _ hW hS (lv_sub hl [0, 1, 2, 3] (by simp only [lv_pick, List.filterMap_cons, List.filterMap_nil, List.getElem?_cons_zero, List.getElem?_cons_succ, f_us_r, if_neg c_3]))
        · skip
          refine lv_aload_n hx hb d_Model_isUsed_15 rfl (lv_at hl 2 rfl) ?_
          refine cd_get (ci := 4) (C := R_Model) (T := F_Model) (N := 20) (v := .ref (m_ad w 10 6)) hx hb hA i_Model hown hK hW 9 0 rfl rfl rfl 7 (by decide) mw_191 rfl rfl d_Model_isUsed_16 ?_
          refine lv_iload_n hx hb d_Model_isUsed_19 rfl (lv_at hl 0 rfl) ?_
          refine cd_zald hx hb hK hW 10 6 (show (6 : Nat) < 11 from by decide) 4 rfl rfl (vp_in_nI (show n < 384 by omega) (by decide)) d_Model_isUsed_20 ?_
          rw [nI_clamp (show n < 2 ^ 31 by omega)]
          refine lv_if_eq (tgt := 38) hx hb d_Model_isUsed_21 (by decide) (fun c_4 => ?_) (fun c_4 => ?_)
          · skip
            refine lv_iconst (v := 0) hx hb d_Model_isUsed_38 (by decide) ?_
            refine lv_istore_n (lv' := [(2, .int 0), (3, .int (nI n)), (0, .ref (m_ad w 9 0)), (1, .int x)]) hx hb d_Model_isUsed_39 rfl hl (by decide) rfl (fun ls hl => ?_)
            refine lv_iinc (v := (nI (n + 1))) (lv' := [(3, .int (nI (n + 1))), (2, .int 0), (0, .ref (m_ad w 9 0)), (1, .int x)]) hx hb d_Model_isUsed_40 hl (k := 1) rfl (by rw [show Int32.ofInt 1 = 1 by decide]; exact nI_1 _) (by decide) rfl (fun ls hl => ?_)
            refine lv_goto (tgt := 4) hx hb d_Model_isUsed_43 (by decide) ?_
            exact ih (n + 1) (by omega) ls _ _ hW hS (lv_sub hl [0, 1, 2, 3] (by simp only [lv_pick, List.filterMap_cons, List.filterMap_nil, List.getElem?_cons_zero, List.getElem?_cons_succ, f_us_r, if_pos c_3, if_pos c_4]))
          · skip
            refine lv_aload_n hx hb d_Model_isUsed_24 rfl (lv_at hl 2 rfl) ?_
            refine cd_get (ci := 4) (C := R_Model) (T := F_Model) (N := 20) (v := .ref (m_ad w 10 9)) hx hb hA i_Model hown hK hW 9 0 rfl rfl rfl 10 (by decide) mw_200 rfl rfl d_Model_isUsed_25 ?_
            refine lv_iload_n hx hb d_Model_isUsed_28 rfl (lv_at hl 0 rfl) ?_
            refine cd_iald hx hb hK hW 10 9 (show (9 : Nat) < 11 from by decide) 0 rfl rfl (vp_in_nI (show n < 384 by omega) (by decide)) d_Model_isUsed_29 ?_
            rw [nI_clamp (show n < 2 ^ 31 by omega)]
            refine lv_iload_n hx hb d_Model_isUsed_30 rfl (lv_at hl 3 rfl) ?_
            refine lv_icmp_ne (tgt := 38) hx hb d_Model_isUsed_31 (by decide) (fun c_5 => ?_) (fun c_5 => ?_)
            · skip
              refine lv_iconst (v := 0) hx hb d_Model_isUsed_38 (by decide) ?_
              refine lv_istore_n (lv' := [(2, .int 0), (3, .int (nI n)), (0, .ref (m_ad w 9 0)), (1, .int x)]) hx hb d_Model_isUsed_39 rfl hl (by decide) rfl (fun ls hl => ?_)
              refine lv_iinc (v := (nI (n + 1))) (lv' := [(3, .int (nI (n + 1))), (2, .int 0), (0, .ref (m_ad w 9 0)), (1, .int x)]) hx hb d_Model_isUsed_40 hl (k := 1) rfl (by rw [show Int32.ofInt 1 = 1 by decide]; exact nI_1 _) (by decide) rfl (fun ls hl => ?_)
              refine lv_goto (tgt := 4) hx hb d_Model_isUsed_43 (by decide) ?_
              exact ih (n + 1) (by omega) ls _ _ hW hS (lv_sub hl [0, 1, 2, 3] (by simp only [lv_pick, List.filterMap_cons, List.filterMap_nil, List.getElem?_cons_zero, List.getElem?_cons_succ, f_us_r, if_pos c_3, if_neg c_4, if_neg c_5]))
            · skip
              refine lv_iconst (v := 1) hx hb d_Model_isUsed_34 (by decide) ?_
              refine lv_goto (tgt := 39) hx hb d_Model_isUsed_35 (by decide) ?_
              refine lv_istore_n (lv' := [(2, .int 1), (3, .int (nI n)), (0, .ref (m_ad w 9 0)), (1, .int x)]) hx hb d_Model_isUsed_39 rfl hl (by decide) rfl (fun ls hl => ?_)
              refine lv_iinc (v := (nI (n + 1))) (lv' := [(3, .int (nI (n + 1))), (2, .int 1), (0, .ref (m_ad w 9 0)), (1, .int x)]) hx hb d_Model_isUsed_40 hl (k := 1) rfl (by rw [show Int32.ofInt 1 = 1 by decide]; exact nI_1 _) (by decide) rfl (fun ls hl => ?_)
              refine lv_goto (tgt := 4) hx hb d_Model_isUsed_43 (by decide) ?_
              exact ih (n + 1) (by omega) ls _ _ hW hS (lv_sub hl [0, 1, 2, 3] (by simp only [lv_pick, List.filterMap_cons, List.filterMap_nil, List.getElem?_cons_zero, List.getElem?_cons_succ, f_us_r, if_pos c_3, if_neg c_4, if_pos c_5]))
  refine lv_iconst (v := 0) hx hb d_Model_isUsed_0 (by decide) ?_
  refine lv_istore_n (lv' := [(2, .int 0), (0, .ref (m_ad w 9 0)), (1, .int x)]) hx hb d_Model_isUsed_1 rfl hl (by decide) rfl (fun ls hl => ?_)
  refine lv_iconst (v := 0) hx hb d_Model_isUsed_2 (by decide) ?_
  refine lv_istore_n (lv' := [(3, .int 0), (2, .int 0), (0, .ref (m_ad w 9 0)), (1, .int x)]) hx hb d_Model_isUsed_3 rfl hl (by decide) rfl (fun ls hl => ?_)
  exact loop (384) 0 (by omega) ls _ _ hW hS (lv_sub hl [0, 1, 2, 3] rfl)

def f_Model_isThere (w : cm_W) (y : Int64) (x : Int32) : Int32 := if y ≤ (64 * x.toInt64) then 0 else if ((64 * x.toInt64) + 64) ≤ y then 0 else if (x_mi w 6 y.toInt32.toNatClampNeg) = 0 then 0 else 1
set_option maxHeartbeats 4000000 in
set_option maxRecDepth 100000 in
theorem c_Model_isThere (l : Launch) (D : va_G) (dA : Nat → ClassId) (b0 : Nat) (w : cm_W) (y : Int64) (x : Int32) (hk : vp_in x 6) : cd_Ct l D (cx_tys dA) b0 y_Model_isThere (.code y_Model_isThere b_Model_isThere 4 (some .boolean) :: cd_WA) { frames := 0, cells := 0, slots := 0, locals := 0 } [.ref (m_ad w 9 0), .long y, .int x] (cm_dm w) (m_ad w) (cm_ce dA w) (cm_R dA (some (.int (f_Model_isThere w y x))) w) 0 0 := by
  refine cd_Ct.of b_Model_isThere 4 (some .boolean) (by decide) rfl ?_
  intro p e s m below meth c hx hb hr hml hown hlocks hnm hA hE hb0 hW hS ls hl
  have hK := hE.1
  have hl : lv_has ls 4 [(0, .ref (m_ad w 9 0)), (1, .long y), (3, .int x)] := hl
  refine lv_lload_n hx hb d_Model_isThere_0 rfl (lv_at hl 1 rfl) ?_
  refine lv_ldc2 (v := 64) hx hb hown (hA _ mw_201) d_Model_isThere_1 ?_
  refine lv_iload_n hx hb d_Model_isThere_4 rfl (lv_at hl 2 rfl) ?_
  refine lv_i2l hx hb d_Model_isThere_5 rfl ?_
  refine lv_lmul hx hb d_Model_isThere_6 ?_
  refine cd_lc_le (tgt := 40) hx hb d_Model_isThere_7 d_Model_isThere_8 (by decide) (fun c_1 => ?_) (fun c_1 => ?_)
  · skip
    refine lv_iconst (v := 0) hx hb d_Model_isThere_40 (by decide) ?_
    have hf : f_Model_isThere w y x = 0 := by
      simp only [f_Model_isThere, if_pos c_1]
    exact cd_zret hx hb hr hlocks hW hS d_Model_isThere_41 (by decide) ⟨by rw [hf], rfl, rfl, rfl⟩ (Nat.le_of_ble_eq_true rfl) (Nat.le_of_ble_eq_true rfl)
  · skip
    refine lv_lload_n hx hb d_Model_isThere_11 rfl (lv_at hl 1 rfl) ?_
    refine lv_ldc2 (v := 64) hx hb hown (hA _ mw_201) d_Model_isThere_12 ?_
    refine lv_iload_n hx hb d_Model_isThere_15 rfl (lv_at hl 2 rfl) ?_
    refine lv_i2l hx hb d_Model_isThere_16 rfl ?_
    refine lv_lmul hx hb d_Model_isThere_17 ?_
    refine lv_ldc2 (v := 64) hx hb hown (hA _ mw_201) d_Model_isThere_18 ?_
    refine lv_ladd hx hb d_Model_isThere_21 ?_
    refine cd_lc_ge (tgt := 40) hx hb d_Model_isThere_22 d_Model_isThere_23 (by decide) (fun c_2 => ?_) (fun c_2 => ?_)
    · skip
      refine lv_iconst (v := 0) hx hb d_Model_isThere_40 (by decide) ?_
      have hf : f_Model_isThere w y x = 0 := by
        simp only [f_Model_isThere, if_neg c_1, if_pos c_2]
      exact cd_zret hx hb hr hlocks hW hS d_Model_isThere_41 (by decide) ⟨by rw [hf], rfl, rfl, rfl⟩ (Nat.le_of_ble_eq_true rfl) (Nat.le_of_ble_eq_true rfl)
    · skip
      refine lv_aload_n hx hb d_Model_isThere_26 rfl (lv_at hl 0 rfl) ?_
      refine cd_get (ci := 4) (C := R_Model) (T := F_Model) (N := 20) (v := .ref (m_ad w 10 6)) hx hb hA i_Model hown hK hW 9 0 rfl rfl rfl 7 (by decide) mw_191 rfl rfl d_Model_isThere_27 ?_
      refine lv_lload_n hx hb d_Model_isThere_30 rfl (lv_at hl 1 rfl) ?_
      refine lv_l2i hx hb d_Model_isThere_31 rfl ?_
      refine cd_zald hx hb hK hW 10 6 (show (6 : Nat) < 11 from by decide) 4 rfl rfl (cm_isT hk c_1 c_2) d_Model_isThere_32 ?_
      refine lv_if_eq (tgt := 40) hx hb d_Model_isThere_33 (by decide) (fun c_3 => ?_) (fun c_3 => ?_)
      · skip
        refine lv_iconst (v := 0) hx hb d_Model_isThere_40 (by decide) ?_
        have hf : f_Model_isThere w y x = 0 := by
          simp only [f_Model_isThere, if_neg c_1, if_neg c_2, if_pos c_3]
        exact cd_zret hx hb hr hlocks hW hS d_Model_isThere_41 (by decide) ⟨by rw [hf], rfl, rfl, rfl⟩ (Nat.le_of_ble_eq_true rfl) (Nat.le_of_ble_eq_true rfl)
      · skip
        refine lv_iconst (v := 1) hx hb d_Model_isThere_36 (by decide) ?_
        refine lv_goto (tgt := 41) hx hb d_Model_isThere_37 (by decide) ?_
        have hf : f_Model_isThere w y x = 1 := by
          simp only [f_Model_isThere, if_neg c_1, if_neg c_2, if_neg c_3]
        exact cd_zret hx hb hr hlocks hW hS d_Model_isThere_41 (by decide) ⟨by rw [hf], rfl, rfl, rfl⟩ (Nat.le_of_ble_eq_true rfl) (Nat.le_of_ble_eq_true rfl)
theorem in_isThere {w : cm_W} {n c : Int32} (hc : vp_in c 6) (h : ¬ f_Model_isThere w n.toInt64 c = 0) : vp_in n 384 := by
  unfold f_Model_isThere at h
  split at h
  · exact absurd rfl h
  · split at h
    · exact absurd rfl h
    · have q := cm_isT hc ‹_› ‹_›
      rwa [Int32.toInt32_toInt64] at q
theorem in_isThereL {w : cm_W} {a : Int64} {c : Int32} (hc : vp_in c 6) (h : ¬ f_Model_isThere w a c = 0) : vp_in a.toInt32 384 := by
  unfold f_Model_isThere at h
  split at h
  · exact absurd rfl h
  · split at h
    · exact absurd rfl h
    · exact cm_isT hc ‹_› ‹_›

def f_Model_why (w : cm_W) (x : Int32) (n : Int32) (y : Int64) : Int32 := if x < 0 then (-1) else if 23 < x then (-1) else if (f_Model_isThere w n.toInt64 (x - x / 6 * 6)) = 0 then (-1) else if x ≤ 17 then (if (f_Model_isFar y) = 0 then (if (x / 6) = 2 then (if (x - x / 6 * 6) = 0 then (if (f_Model_isUsed w n) = 0 then (if (x_mi w 8 n.toNatClampNeg) = 50 then (-4) else 0) else (-3)) else if (x_mi w 8 n.toNatClampNeg) = 50 then (-4) else 0) else 0) else (-2)) else if (f_Model_isThere w y (x - x / 6 * 6)) = 0 then (-1) else if (f_Model_isFar y) = 0 then (if (x / 6) = 2 then (if (x - x / 6 * 6) = 0 then (if (f_Model_isUsed w n) = 0 then (if (x_mi w 8 n.toNatClampNeg) = 50 then (-4) else 0) else (-3)) else if (x_mi w 8 n.toNatClampNeg) = 50 then (-4) else 0) else 0) else (-2)
set_option maxHeartbeats 4000000 in
set_option maxRecDepth 100000 in
theorem c_Model_why (l : Launch) (D : va_G) (dA : Nat → ClassId) (b0 : Nat) (w : cm_W) (x : Int32) (n : Int32) (y : Int64) : cd_Ct l D (cx_tys dA) b0 y_Model_why (.code y_Model_why b_Model_why 6 (some .int) :: cd_WA) { frames := 1, cells := 0, slots := 0, locals := 23 } [.ref (m_ad w 9 0), .int x, .int n, .long y] (cm_dm w) (m_ad w) (cm_ce dA w) (cm_R dA (some (.int (f_Model_why w x n y))) w) 0 0 := by
  refine cd_Ct.of b_Model_why 6 (some .int) (by decide) rfl ?_
  intro p e s m below meth c hx hb hr hml hown hlocks hnm hA hE hb0 hW hS ls hl
  have hK := hE.1
  have hl : lv_has ls 6 [(0, .ref (m_ad w 9 0)), (1, .int x), (2, .int n), (3, .long y)] := hl
  refine lv_iload_n hx hb d_Model_why_0 rfl (lv_at hl 1 rfl) ?_
  refine lv_if_lt (tgt := 41) hx hb d_Model_why_1 (by decide) (fun c_1 => ?_) (fun c_1 => ?_)
  · skip
    refine lv_iconst (v := (-1)) hx hb d_Model_why_41 (by decide) ?_
    have hf : f_Model_why w x n y = (-1) := by
      simp only [f_Model_why, if_pos c_1]
    exact cd_iret hx hb hr hlocks hW hS d_Model_why_42 ⟨by rw [hf], rfl, rfl, rfl⟩ (Nat.le_of_ble_eq_true rfl) (Nat.le_of_ble_eq_true rfl)
  · skip
    refine lv_iload_n hx hb d_Model_why_4 rfl (lv_at hl 1 rfl) ?_
    refine lv_bipush (v := 23) hx hb d_Model_why_5 (by decide) ?_
    refine lv_icmp_gt (tgt := 41) hx hb d_Model_why_7 (by decide) (fun c_2 => ?_) (fun c_2 => ?_)
    · skip
      refine lv_iconst (v := (-1)) hx hb d_Model_why_41 (by decide) ?_
      have hf : f_Model_why w x n y = (-1) := by
        simp only [f_Model_why, if_neg c_1, if_pos c_2]
      exact cd_iret hx hb hr hlocks hW hS d_Model_why_42 ⟨by rw [hf], rfl, rfl, rfl⟩ (Nat.le_of_ble_eq_true rfl) (Nat.le_of_ble_eq_true rfl)
    · skip
      refine lv_aload_n hx hb d_Model_why_10 rfl (lv_at hl 0 rfl) ?_
      refine lv_iload_n hx hb d_Model_why_11 rfl (lv_at hl 2 rfl) ?_
      refine lv_i2l hx hb d_Model_why_12 rfl ?_
      refine lv_iload_n hx hb d_Model_why_13 rfl (lv_at hl 1 rfl) ?_
      refine lv_bipush (v := 6) hx hb d_Model_why_14 (by decide) ?_
      refine lv_irem hx hb d_Model_why_16 (by decide) ?_
      refine cm_cV (w0 := w) (x0 := .int (f_Model_isThere w n.toInt64 (x - x / 6 * 6))) (rest := []) (n := 2) ⟨hx, hb, hml, hown, hA⟩ (cd_GA mw_202) hE hb0 hW hS 9 0 rfl rfl rfl (c_Model_isThere l D dA b0 w n.toInt64 (x - x / 6 * 6) (cm_rem6 (cm_in23 c_1 c_2))) mw_205 mw_203 mw_204 mw_174 (by decide +kernel) rfl rfl ⟨by decide, by decide⟩ rfl hl.1 rfl (Nat.le_of_ble_eq_true rfl) d_Model_why_17 ⟨by decide, by decide⟩ (fun H locs hW hS => ?_)
      refine lv_if_eq (tgt := 41) hx hb d_Model_why_20 (by decide) (fun c_3 => ?_) (fun c_3 => ?_)
      · skip
        refine lv_iconst (v := (-1)) hx hb d_Model_why_41 (by decide) ?_
        have hf : f_Model_why w x n y = (-1) := by
          simp only [f_Model_why, if_neg c_1, if_neg c_2, if_pos c_3]
        exact cd_iret hx hb hr hlocks hW hS d_Model_why_42 ⟨by rw [hf], rfl, rfl, rfl⟩ (Nat.le_of_ble_eq_true rfl) (Nat.le_of_ble_eq_true rfl)
      · skip
        refine lv_iload_n hx hb d_Model_why_23 rfl (lv_at hl 1 rfl) ?_
        refine lv_bipush (v := 17) hx hb d_Model_why_24 (by decide) ?_
        refine lv_icmp_le (tgt := 43) hx hb d_Model_why_26 (by decide) (fun c_4 => ?_) (fun c_4 => ?_)
        · skip
          refine lv_lload_n hx hb d_Model_why_43 rfl (lv_at hl 3 rfl) ?_
          refine cm_cS (w0 := w) (x0 := .int (f_Model_isFar y)) (rest := []) (n := 1) ⟨hx, hb, hml, hown, hA⟩ (cd_GA mw_178) hE hb0 hW hS (c_Model_isFar l D dA b0 w y) mw_180 mw_179 mw_174 (by decide +kernel) rfl rfl ⟨by decide, by decide⟩ rfl hl.1 rfl (Nat.le_of_ble_eq_true rfl) d_Model_why_44 ⟨by decide, by decide⟩ (fun H locs hW hS => ?_)
          refine lv_if_eq (tgt := 53) hx hb d_Model_why_47 (by decide) (fun c_5 => ?_) (fun c_5 => ?_)
          · skip
            refine lv_iload_n hx hb d_Model_why_53 rfl (lv_at hl 1 rfl) ?_
            refine lv_bipush (v := 6) hx hb d_Model_why_54 (by decide) ?_
            refine lv_idiv hx hb d_Model_why_56 (by decide) ?_
            refine lv_iconst (v := 2) hx hb d_Model_why_57 (by decide) ?_
            refine lv_icmp_ne (tgt := 65) hx hb d_Model_why_58 (by decide) (fun c_6 => ?_) (fun c_6 => ?_)
            · skip
              refine lv_iconst (v := 0) hx hb d_Model_why_65 (by decide) ?_
              refine lv_istore (lv' := [(5, .int 0), (0, .ref (m_ad w 9 0)), (1, .int x), (2, .int n), (3, .long y)]) hx hb d_Model_why_66 hl (by decide) rfl (fun ls hl => ?_)
              refine lv_iload hx hb d_Model_why_68 (lv_at hl 0 rfl) ?_
              refine lv_if_eq (tgt := 91) hx hb d_Model_why_70 (by decide) (fun _ => ?_) (fun c_7 => absurd (by decide) c_7)
              refine lv_iload hx hb d_Model_why_91 (lv_at hl 0 rfl) ?_
              refine lv_if_eq (tgt := 112) hx hb d_Model_why_93 (by decide) (fun _ => ?_) (fun c_8 => absurd (by decide) c_8)
              refine lv_iconst (v := 0) hx hb d_Model_why_112 (by decide) ?_
              have hf : f_Model_why w x n y = 0 := by
                simp only [f_Model_why, if_neg c_1, if_neg c_2, if_neg c_3, if_pos c_4, if_pos c_5, if_neg c_6]
              exact cd_iret hx hb hr hlocks hW hS d_Model_why_113 ⟨by rw [hf], rfl, rfl, rfl⟩ (Nat.le_of_ble_eq_true rfl) (Nat.le_of_ble_eq_true rfl)
            · skip
              refine lv_iconst (v := 1) hx hb d_Model_why_61 (by decide) ?_
              refine lv_goto (tgt := 66) hx hb d_Model_why_62 (by decide) ?_
              refine lv_istore (lv' := [(5, .int 1), (0, .ref (m_ad w 9 0)), (1, .int x), (2, .int n), (3, .long y)]) hx hb d_Model_why_66 hl (by decide) rfl (fun ls hl => ?_)
              refine lv_iload hx hb d_Model_why_68 (lv_at hl 0 rfl) ?_
              refine lv_if_eq (tgt := 91) hx hb d_Model_why_70 (by decide) (fun c_9 => absurd c_9 (by decide)) (fun _ => ?_)
              refine lv_iload_n hx hb d_Model_why_73 rfl (lv_at hl 2 rfl) ?_
              refine lv_bipush (v := 6) hx hb d_Model_why_74 (by decide) ?_
              refine lv_irem hx hb d_Model_why_76 (by decide) ?_
              refine lv_if_ne (tgt := 91) hx hb d_Model_why_77 (by decide) (fun c_10 => ?_) (fun c_10 => ?_)
              · skip
                refine lv_iload hx hb d_Model_why_91 (lv_at hl 0 rfl) ?_
                refine lv_if_eq (tgt := 112) hx hb d_Model_why_93 (by decide) (fun c_11 => absurd c_11 (by decide)) (fun _ => ?_)
                refine lv_aload_n hx hb d_Model_why_96 rfl (lv_at hl 1 rfl) ?_
                refine cd_get (ci := 4) (C := R_Model) (T := F_Model) (N := 20) (v := .ref (m_ad w 10 8)) hx hb hA i_Model hown hK hW 9 0 rfl rfl rfl 9 (by decide) mw_206 rfl rfl d_Model_why_97 ?_
                refine lv_iload_n hx hb d_Model_why_100 rfl (lv_at hl 3 rfl) ?_
                refine cd_iald hx hb hK hW 10 8 (show (8 : Nat) < 11 from by decide) 0 rfl rfl (in_isThere (cm_rem6 (cm_in23 c_1 c_2)) c_3) d_Model_why_101 ?_
                refine lv_bipush (v := 50) hx hb d_Model_why_102 (by decide) ?_
                refine lv_icmp_ne (tgt := 112) hx hb d_Model_why_104 (by decide) (fun c_12 => ?_) (fun c_12 => ?_)
                · skip
                  refine lv_iconst (v := 0) hx hb d_Model_why_112 (by decide) ?_
                  have hf : f_Model_why w x n y = 0 := by
                    simp only [f_Model_why, if_neg c_1, if_neg c_2, if_neg c_3, if_pos c_4, if_pos c_5, if_pos c_6, if_neg c_10, if_neg c_12]
                  exact cd_iret hx hb hr hlocks hW hS d_Model_why_113 ⟨by rw [hf], rfl, rfl, rfl⟩ (Nat.le_of_ble_eq_true rfl) (Nat.le_of_ble_eq_true rfl)
                · skip
                  refine lv_bipush (v := (-4)) hx hb d_Model_why_107 (by decide) ?_
                  refine lv_goto (tgt := 113) hx hb d_Model_why_109 (by decide) ?_
                  have hf : f_Model_why w x n y = (-4) := by
                    simp only [f_Model_why, if_neg c_1, if_neg c_2, if_neg c_3, if_pos c_4, if_pos c_5, if_pos c_6, if_neg c_10, if_pos c_12]
                  exact cd_iret hx hb hr hlocks hW hS d_Model_why_113 ⟨by rw [hf], rfl, rfl, rfl⟩ (Nat.le_of_ble_eq_true rfl) (Nat.le_of_ble_eq_true rfl)
              · skip
                refine lv_aload_n hx hb d_Model_why_80 rfl (lv_at hl 1 rfl) ?_
                refine lv_iload_n hx hb d_Model_why_81 rfl (lv_at hl 3 rfl) ?_
                refine cm_cV (w0 := w) (x0 := .int (f_Model_isUsed w n)) (rest := []) (n := 1) ⟨hx, hb, hml, hown, hA⟩ (cd_GA mw_207) hE hb0 hW hS 9 0 rfl rfl rfl (c_Model_isUsed l D dA b0 w n) mw_210 mw_208 mw_209 mw_174 (by decide +kernel) rfl rfl ⟨by decide, by decide⟩ rfl hl.1 rfl (Nat.le_of_ble_eq_true rfl) d_Model_why_82 ⟨by decide, by decide⟩ (fun H locs hW hS => ?_)
                refine lv_if_eq (tgt := 91) hx hb d_Model_why_85 (by decide) (fun c_13 => ?_) (fun c_13 => ?_)
                · skip
                  refine lv_iload hx hb d_Model_why_91 (lv_at hl 0 rfl) ?_
                  refine lv_if_eq (tgt := 112) hx hb d_Model_why_93 (by decide) (fun c_14 => absurd c_14 (by decide)) (fun _ => ?_)
                  refine lv_aload_n hx hb d_Model_why_96 rfl (lv_at hl 1 rfl) ?_
                  refine cd_get (ci := 4) (C := R_Model) (T := F_Model) (N := 20) (v := .ref (m_ad w 10 8)) hx hb hA i_Model hown hK hW 9 0 rfl rfl rfl 9 (by decide) mw_206 rfl rfl d_Model_why_97 ?_
                  refine lv_iload_n hx hb d_Model_why_100 rfl (lv_at hl 3 rfl) ?_
                  refine cd_iald hx hb hK hW 10 8 (show (8 : Nat) < 11 from by decide) 0 rfl rfl (in_isThere (cm_rem6 (cm_in23 c_1 c_2)) c_3) d_Model_why_101 ?_
                  refine lv_bipush (v := 50) hx hb d_Model_why_102 (by decide) ?_
                  refine lv_icmp_ne (tgt := 112) hx hb d_Model_why_104 (by decide) (fun c_15 => ?_) (fun c_15 => ?_)
                  · skip
                    refine lv_iconst (v := 0) hx hb d_Model_why_112 (by decide) ?_
                    have hf : f_Model_why w x n y = 0 := by
                      simp only [f_Model_why, if_neg c_1, if_neg c_2, if_neg c_3, if_pos c_4, if_pos c_5, if_pos c_6, if_pos c_10, if_pos c_13, if_neg c_15]
                    exact cd_iret hx hb hr hlocks hW hS d_Model_why_113 ⟨by rw [hf], rfl, rfl, rfl⟩ (Nat.le_of_ble_eq_true rfl) (Nat.le_of_ble_eq_true rfl)
                  · skip
                    refine lv_bipush (v := (-4)) hx hb d_Model_why_107 (by decide) ?_
                    refine lv_goto (tgt := 113) hx hb d_Model_why_109 (by decide) ?_
                    have hf : f_Model_why w x n y = (-4) := by
                      simp only [f_Model_why, if_neg c_1, if_neg c_2, if_neg c_3, if_pos c_4, if_pos c_5, if_pos c_6, if_pos c_10, if_pos c_13, if_pos c_15]
                    exact cd_iret hx hb hr hlocks hW hS d_Model_why_113 ⟨by rw [hf], rfl, rfl, rfl⟩ (Nat.le_of_ble_eq_true rfl) (Nat.le_of_ble_eq_true rfl)
                · skip
                  refine lv_bipush (v := (-3)) hx hb d_Model_why_88 (by decide) ?_
                  have hf : f_Model_why w x n y = (-3) := by
                    simp only [f_Model_why, if_neg c_1, if_neg c_2, if_neg c_3, if_pos c_4, if_pos c_5, if_pos c_6, if_pos c_10, if_neg c_13]
                  exact cd_iret hx hb hr hlocks hW hS d_Model_why_90 ⟨by rw [hf], rfl, rfl, rfl⟩ (Nat.le_of_ble_eq_true rfl) (Nat.le_of_ble_eq_true rfl)
          · skip
            refine lv_bipush (v := (-2)) hx hb d_Model_why_50 (by decide) ?_
            have hf : f_Model_why w x n y = (-2) := by
              simp only [f_Model_why, if_neg c_1, if_neg c_2, if_neg c_3, if_pos c_4, if_neg c_5]
            exact cd_iret hx hb hr hlocks hW hS d_Model_why_52 ⟨by rw [hf], rfl, rfl, rfl⟩ (Nat.le_of_ble_eq_true rfl) (Nat.le_of_ble_eq_true rfl)
        · skip
          refine lv_aload_n hx hb d_Model_why_29 rfl (lv_at hl 0 rfl) ?_
          refine lv_lload_n hx hb d_Model_why_30 rfl (lv_at hl 3 rfl) ?_
          refine lv_iload_n hx hb d_Model_why_31 rfl (lv_at hl 1 rfl) ?_
          refine lv_bipush (v := 6) hx hb d_Model_why_32 (by decide) ?_
          refine lv_irem hx hb d_Model_why_34 (by decide) ?_
          refine cm_cV (w0 := w) (x0 := .int (f_Model_isThere w y (x - x / 6 * 6))) (rest := []) (n := 2) ⟨hx, hb, hml, hown, hA⟩ (cd_GA mw_202) hE hb0 hW hS 9 0 rfl rfl rfl (c_Model_isThere l D dA b0 w y (x - x / 6 * 6) (cm_rem6 (cm_in23 c_1 c_2))) mw_205 mw_203 mw_204 mw_174 (by decide +kernel) rfl rfl ⟨by decide, by decide⟩ rfl hl.1 rfl (Nat.le_of_ble_eq_true rfl) d_Model_why_35 ⟨by decide, by decide⟩ (fun H locs hW hS => ?_)
          refine lv_if_ne (tgt := 43) hx hb d_Model_why_38 (by decide) (fun c_16 => ?_) (fun c_16 => ?_)
          · skip
            refine lv_lload_n hx hb d_Model_why_43 rfl (lv_at hl 3 rfl) ?_
            refine cm_cS (w0 := w) (x0 := .int (f_Model_isFar y)) (rest := []) (n := 1) ⟨hx, hb, hml, hown, hA⟩ (cd_GA mw_178) hE hb0 hW hS (c_Model_isFar l D dA b0 w y) mw_180 mw_179 mw_174 (by decide +kernel) rfl rfl ⟨by decide, by decide⟩ rfl hl.1 rfl (Nat.le_of_ble_eq_true rfl) d_Model_why_44 ⟨by decide, by decide⟩ (fun H locs hW hS => ?_)
            refine lv_if_eq (tgt := 53) hx hb d_Model_why_47 (by decide) (fun c_17 => ?_) (fun c_17 => ?_)
            · skip
              refine lv_iload_n hx hb d_Model_why_53 rfl (lv_at hl 1 rfl) ?_
              refine lv_bipush (v := 6) hx hb d_Model_why_54 (by decide) ?_
              refine lv_idiv hx hb d_Model_why_56 (by decide) ?_
              refine lv_iconst (v := 2) hx hb d_Model_why_57 (by decide) ?_
              refine lv_icmp_ne (tgt := 65) hx hb d_Model_why_58 (by decide) (fun c_18 => ?_) (fun c_18 => ?_)
              · skip
                refine lv_iconst (v := 0) hx hb d_Model_why_65 (by decide) ?_
                refine lv_istore (lv' := [(5, .int 0), (0, .ref (m_ad w 9 0)), (1, .int x), (2, .int n), (3, .long y)]) hx hb d_Model_why_66 hl (by decide) rfl (fun ls hl => ?_)
                refine lv_iload hx hb d_Model_why_68 (lv_at hl 0 rfl) ?_
                refine lv_if_eq (tgt := 91) hx hb d_Model_why_70 (by decide) (fun _ => ?_) (fun c_19 => absurd (by decide) c_19)
                refine lv_iload hx hb d_Model_why_91 (lv_at hl 0 rfl) ?_
                refine lv_if_eq (tgt := 112) hx hb d_Model_why_93 (by decide) (fun _ => ?_) (fun c_20 => absurd (by decide) c_20)
                refine lv_iconst (v := 0) hx hb d_Model_why_112 (by decide) ?_
                have hf : f_Model_why w x n y = 0 := by
                  simp only [f_Model_why, if_neg c_1, if_neg c_2, if_neg c_3, if_neg c_4, if_neg c_16, if_pos c_17, if_neg c_18]
                exact cd_iret hx hb hr hlocks hW hS d_Model_why_113 ⟨by rw [hf], rfl, rfl, rfl⟩ (Nat.le_of_ble_eq_true rfl) (Nat.le_of_ble_eq_true rfl)
              · skip
                refine lv_iconst (v := 1) hx hb d_Model_why_61 (by decide) ?_
                refine lv_goto (tgt := 66) hx hb d_Model_why_62 (by decide) ?_
                refine lv_istore (lv' := [(5, .int 1), (0, .ref (m_ad w 9 0)), (1, .int x), (2, .int n), (3, .long y)]) hx hb d_Model_why_66 hl (by decide) rfl (fun ls hl => ?_)
                refine lv_iload hx hb d_Model_why_68 (lv_at hl 0 rfl) ?_
                refine lv_if_eq (tgt := 91) hx hb d_Model_why_70 (by decide) (fun c_21 => absurd c_21 (by decide)) (fun _ => ?_)
                refine lv_iload_n hx hb d_Model_why_73 rfl (lv_at hl 2 rfl) ?_
                refine lv_bipush (v := 6) hx hb d_Model_why_74 (by decide) ?_
                refine lv_irem hx hb d_Model_why_76 (by decide) ?_
                refine lv_if_ne (tgt := 91) hx hb d_Model_why_77 (by decide) (fun c_22 => ?_) (fun c_22 => ?_)
                · skip
                  refine lv_iload hx hb d_Model_why_91 (lv_at hl 0 rfl) ?_
                  refine lv_if_eq (tgt := 112) hx hb d_Model_why_93 (by decide) (fun c_23 => absurd c_23 (by decide)) (fun _ => ?_)
                  refine lv_aload_n hx hb d_Model_why_96 rfl (lv_at hl 1 rfl) ?_
                  refine cd_get (ci := 4) (C := R_Model) (T := F_Model) (N := 20) (v := .ref (m_ad w 10 8)) hx hb hA i_Model hown hK hW 9 0 rfl rfl rfl 9 (by decide) mw_206 rfl rfl d_Model_why_97 ?_
                  refine lv_iload_n hx hb d_Model_why_100 rfl (lv_at hl 3 rfl) ?_
                  refine cd_iald hx hb hK hW 10 8 (show (8 : Nat) < 11 from by decide) 0 rfl rfl (in_isThere (cm_rem6 (cm_in23 c_1 c_2)) c_3) d_Model_why_101 ?_
                  refine lv_bipush (v := 50) hx hb d_Model_why_102 (by decide) ?_
                  refine lv_icmp_ne (tgt := 112) hx hb d_Model_why_104 (by decide) (fun c_24 => ?_) (fun c_24 => ?_)
                  · skip
                    refine lv_iconst (v := 0) hx hb d_Model_why_112 (by decide) ?_
                    have hf : f_Model_why w x n y = 0 := by
                      simp only [f_Model_why, if_neg c_1, if_neg c_2, if_neg c_3, if_neg c_4, if_neg c_16, if_pos c_17, if_pos c_18, if_neg c_22, if_neg c_24]
                    exact cd_iret hx hb hr hlocks hW hS d_Model_why_113 ⟨by rw [hf], rfl, rfl, rfl⟩ (Nat.le_of_ble_eq_true rfl) (Nat.le_of_ble_eq_true rfl)
                  · skip
                    refine lv_bipush (v := (-4)) hx hb d_Model_why_107 (by decide) ?_
                    refine lv_goto (tgt := 113) hx hb d_Model_why_109 (by decide) ?_
                    have hf : f_Model_why w x n y = (-4) := by
                      simp only [f_Model_why, if_neg c_1, if_neg c_2, if_neg c_3, if_neg c_4, if_neg c_16, if_pos c_17, if_pos c_18, if_neg c_22, if_pos c_24]
                    exact cd_iret hx hb hr hlocks hW hS d_Model_why_113 ⟨by rw [hf], rfl, rfl, rfl⟩ (Nat.le_of_ble_eq_true rfl) (Nat.le_of_ble_eq_true rfl)
                · skip
                  refine lv_aload_n hx hb d_Model_why_80 rfl (lv_at hl 1 rfl) ?_
                  refine lv_iload_n hx hb d_Model_why_81 rfl (lv_at hl 3 rfl) ?_
                  refine cm_cV (w0 := w) (x0 := .int (f_Model_isUsed w n)) (rest := []) (n := 1) ⟨hx, hb, hml, hown, hA⟩ (cd_GA mw_207) hE hb0 hW hS 9 0 rfl rfl rfl (c_Model_isUsed l D dA b0 w n) mw_210 mw_208 mw_209 mw_174 (by decide +kernel) rfl rfl ⟨by decide, by decide⟩ rfl hl.1 rfl (Nat.le_of_ble_eq_true rfl) d_Model_why_82 ⟨by decide, by decide⟩ (fun H locs hW hS => ?_)
                  refine lv_if_eq (tgt := 91) hx hb d_Model_why_85 (by decide) (fun c_25 => ?_) (fun c_25 => ?_)
                  · skip
                    refine lv_iload hx hb d_Model_why_91 (lv_at hl 0 rfl) ?_
                    refine lv_if_eq (tgt := 112) hx hb d_Model_why_93 (by decide) (fun c_26 => absurd c_26 (by decide)) (fun _ => ?_)
                    refine lv_aload_n hx hb d_Model_why_96 rfl (lv_at hl 1 rfl) ?_
                    refine cd_get (ci := 4) (C := R_Model) (T := F_Model) (N := 20) (v := .ref (m_ad w 10 8)) hx hb hA i_Model hown hK hW 9 0 rfl rfl rfl 9 (by decide) mw_206 rfl rfl d_Model_why_97 ?_
                    refine lv_iload_n hx hb d_Model_why_100 rfl (lv_at hl 3 rfl) ?_
                    refine cd_iald hx hb hK hW 10 8 (show (8 : Nat) < 11 from by decide) 0 rfl rfl (in_isThere (cm_rem6 (cm_in23 c_1 c_2)) c_3) d_Model_why_101 ?_
                    refine lv_bipush (v := 50) hx hb d_Model_why_102 (by decide) ?_
                    refine lv_icmp_ne (tgt := 112) hx hb d_Model_why_104 (by decide) (fun c_27 => ?_) (fun c_27 => ?_)
                    · skip
                      refine lv_iconst (v := 0) hx hb d_Model_why_112 (by decide) ?_
                      have hf : f_Model_why w x n y = 0 := by
                        simp only [f_Model_why, if_neg c_1, if_neg c_2, if_neg c_3, if_neg c_4, if_neg c_16, if_pos c_17, if_pos c_18, if_pos c_22, if_pos c_25, if_neg c_27]
                      exact cd_iret hx hb hr hlocks hW hS d_Model_why_113 ⟨by rw [hf], rfl, rfl, rfl⟩ (Nat.le_of_ble_eq_true rfl) (Nat.le_of_ble_eq_true rfl)
                    · skip
                      refine lv_bipush (v := (-4)) hx hb d_Model_why_107 (by decide) ?_
                      refine lv_goto (tgt := 113) hx hb d_Model_why_109 (by decide) ?_
                      have hf : f_Model_why w x n y = (-4) := by
                        simp only [f_Model_why, if_neg c_1, if_neg c_2, if_neg c_3, if_neg c_4, if_neg c_16, if_pos c_17, if_pos c_18, if_pos c_22, if_pos c_25, if_pos c_27]
                      exact cd_iret hx hb hr hlocks hW hS d_Model_why_113 ⟨by rw [hf], rfl, rfl, rfl⟩ (Nat.le_of_ble_eq_true rfl) (Nat.le_of_ble_eq_true rfl)
                  · skip
                    refine lv_bipush (v := (-3)) hx hb d_Model_why_88 (by decide) ?_
                    have hf : f_Model_why w x n y = (-3) := by
                      simp only [f_Model_why, if_neg c_1, if_neg c_2, if_neg c_3, if_neg c_4, if_neg c_16, if_pos c_17, if_pos c_18, if_pos c_22, if_neg c_25]
                    exact cd_iret hx hb hr hlocks hW hS d_Model_why_90 ⟨by rw [hf], rfl, rfl, rfl⟩ (Nat.le_of_ble_eq_true rfl) (Nat.le_of_ble_eq_true rfl)
            · skip
              refine lv_bipush (v := (-2)) hx hb d_Model_why_50 (by decide) ?_
              have hf : f_Model_why w x n y = (-2) := by
                simp only [f_Model_why, if_neg c_1, if_neg c_2, if_neg c_3, if_neg c_4, if_neg c_16, if_neg c_17]
              exact cd_iret hx hb hr hlocks hW hS d_Model_why_52 ⟨by rw [hf], rfl, rfl, rfl⟩ (Nat.le_of_ble_eq_true rfl) (Nat.le_of_ble_eq_true rfl)
          · skip
            refine lv_iconst (v := (-1)) hx hb d_Model_why_41 (by decide) ?_
            have hf : f_Model_why w x n y = (-1) := by
              simp only [f_Model_why, if_neg c_1, if_neg c_2, if_neg c_3, if_neg c_4, if_pos c_16]
            exact cd_iret hx hb hr hlocks hW hS d_Model_why_42 ⟨by rw [hf], rfl, rfl, rfl⟩ (Nat.le_of_ble_eq_true rfl) (Nat.le_of_ble_eq_true rfl)
theorem why_in {w : cm_W} {x n : Int32} {y : Int64} (h : f_Model_why w x n y = 0) : vp_in x 24 ∧ vp_in n 384 ∧ (¬ x / 6 = 0 → ¬ x / 6 = 1 → ¬ x / 6 = 2 → vp_in y.toInt32 384) := by
  unfold f_Model_why at h
  split at h
  · exact absurd h (by decide)
  · split at h
    · exact absurd h (by decide)
    · have hcl := cm_in23 ‹_› ‹_›
      split at h
      · exact absurd h (by decide)
      · have hn := in_isThere (cm_rem6 hcl) ‹_›
        refine ⟨hcl, hn, fun a1 a2 a3 => ?_⟩
        split at h
        · rename_i hle
          exfalso
          obtain ⟨j, hj, rfl⟩ := vp_in_of hcl (by decide)
          have h17 : j ≤ 17 := (nI_leI (by omega) (by decide)).mp (show nI j ≤ nI 17 from hle)
          rw [show (6 : Int32) = nI 6 from rfl, pk_div (by omega) (by decide) (by decide)] at a1 a2 a3
          rw [show (0 : Int32) = nI 0 from rfl, nI_eq (by omega) (by decide)] at a1
          rw [show (1 : Int32) = nI 1 from rfl, nI_eq (by omega) (by decide)] at a2
          rw [show (2 : Int32) = nI 2 from rfl, nI_eq (by omega) (by decide)] at a3
          omega
        · split at h
          · exact absurd h (by decide)
          · exact in_isThereL (cm_rem6 hcl) ‹_›

