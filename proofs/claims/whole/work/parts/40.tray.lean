def f_Tray_isFull (w : cx_W) (t : Nat) : Int32 := if (nI (x_cnt w t)) < 200 then 0 else 1
set_option maxHeartbeats 4000000 in
set_option maxRecDepth 100000 in
theorem c_Tray_isFull (l : Launch) (D : va_G) (dA : Nat → ClassId) (b0 : Nat) (w : cx_W) (t : Nat) (h_t : t < 3) : cd_Ct l D (cx_tys dA) b0 y_Tray_isFull (.code y_Tray_isFull b_Tray_isFull 1 (some .boolean) :: cd_WA) { frames := 0, cells := 0, slots := 0, locals := 0 } [.ref (x_ad w 1 t)] (cx_dm w) (x_ad w) (cx_ce dA w) (cx_R dA (some (.int (f_Tray_isFull w t))) w) 0 0 := by
  refine cd_Ct.of b_Tray_isFull 1 (some .boolean) (by decide) rfl ?_
  intro p e s m below meth c hx hb hr hml hown hlocks hnm hA hE hb0 hW hS ls hl
  have hK := hE.1
  have hl : lv_has ls 1 [(0, .ref (x_ad w 1 t))] := hl
  refine lv_aload_n hx hb d_Tray_isFull_0 rfl (lv_at hl 0 rfl) ?_
  refine cd_get (ci := 1) (C := R_Tray) (T := F_Tray) (N := 3) (v := .int (nI (x_cnt w t))) hx hb hA i_Tray hown hK hW 1 t h_t rfl rfl 2 (by decide) mw_0 rfl rfl d_Tray_isFull_1 ?_
  refine lv_sipush (v := 200) hx hb d_Tray_isFull_4 (by decide) ?_
  refine lv_icmp_lt (tgt := 14) hx hb d_Tray_isFull_7 (by decide) (fun c_1 => ?_) (fun c_1 => ?_)
  · skip
    refine lv_iconst (v := 0) hx hb d_Tray_isFull_14 (by decide) ?_
    have hf : f_Tray_isFull w t = 0 := by
      simp only [f_Tray_isFull, if_pos c_1]
    exact cd_zret hx hb hr hlocks hW hS d_Tray_isFull_15 (by decide) ⟨by rw [hf], rfl, rfl, rfl⟩ (Nat.le_of_ble_eq_true rfl) (Nat.le_of_ble_eq_true rfl)
  · skip
    refine lv_iconst (v := 1) hx hb d_Tray_isFull_10 (by decide) ?_
    refine lv_goto (tgt := 15) hx hb d_Tray_isFull_11 (by decide) ?_
    have hf : f_Tray_isFull w t = 1 := by
      simp only [f_Tray_isFull, if_neg c_1]
    exact cd_zret hx hb hr hlocks hW hS d_Tray_isFull_15 (by decide) ⟨by rw [hf], rfl, rfl, rfl⟩ (Nat.le_of_ble_eq_true rfl) (Nat.le_of_ble_eq_true rfl)

def f_Tray_put (w : cx_W) (t : Nat) (v : Int32) : cx_W := u_cnt (u_val w t (x_cnt w t) v) t (x_cnt w t + 1)
set_option maxHeartbeats 4000000 in
set_option maxRecDepth 100000 in
theorem c_Tray_put (l : Launch) (D : va_G) (dA : Nat → ClassId) (b0 : Nat) (w : cx_W) (t : Nat) (v : Int32) (h_t : t < 3) (hc : x_cnt w t < 200) : cd_Ct l D (cx_tys dA) b0 y_Tray_put (.code y_Tray_put b_Tray_put 2 none :: cd_WA) { frames := 0, cells := 0, slots := 0, locals := 0 } [.ref (x_ad w 1 t), .int v] (cx_dm w) (x_ad w) (cx_ce dA w) (cx_R dA none (f_Tray_put w t v)) 0 0 := by
  refine cd_Ct.of b_Tray_put 2 none (by decide) rfl ?_
  intro p e s m below meth c hx hb hr hml hown hlocks hnm hA hE hb0 hW hS ls hl
  have hK := hE.1
  have hl : lv_has ls 2 [(0, .ref (x_ad w 1 t)), (1, .int v)] := hl
  refine lv_aload_n hx hb d_Tray_put_0 rfl (lv_at hl 0 rfl) ?_
  refine cd_get (ci := 1) (C := R_Tray) (T := F_Tray) (N := 3) (v := .int (nI (x_cnt w t))) hx hb hA i_Tray hown hK hW 1 t h_t rfl rfl 2 (by decide) mw_0 rfl rfl d_Tray_put_1 ?_
  refine lv_if_lt (tgt := 37) hx hb d_Tray_put_4 (by decide) (fun c_1 => ?_) (fun c_1 => ?_)
  · skip
    exact absurd c_1 (nI_pos (by omega))
  · skip
    refine lv_aload_n hx hb d_Tray_put_7 rfl (lv_at hl 0 rfl) ?_
    refine cd_get (ci := 1) (C := R_Tray) (T := F_Tray) (N := 3) (v := .int (nI (x_cnt w t))) hx hb hA i_Tray hown hK hW 1 t h_t rfl rfl 2 (by decide) mw_0 rfl rfl d_Tray_put_8 ?_
    refine lv_sipush (v := 200) hx hb d_Tray_put_11 (by decide) ?_
    refine lv_icmp_ge (tgt := 37) hx hb d_Tray_put_14 (by decide) (fun c_2 => ?_) (fun c_2 => ?_)
    · skip
      exact absurd c_2 (nI_ge (b := 200) hc (by decide))
    · skip
      refine lv_aload_n hx hb d_Tray_put_17 rfl (lv_at hl 0 rfl) ?_
      refine cd_get (ci := 1) (C := R_Tray) (T := F_Tray) (N := 3) (v := .ref (x_ad w 2 t)) hx hb hA i_Tray hown hK hW 1 t h_t rfl rfl 1 (by decide) mw_1 rfl rfl d_Tray_put_18 ?_
      refine lv_aload_n hx hb d_Tray_put_21 rfl (lv_at hl 0 rfl) ?_
      refine cd_get (ci := 1) (C := R_Tray) (T := F_Tray) (N := 3) (v := .int (nI (x_cnt w t))) hx hb hA i_Tray hown hK hW 1 t h_t rfl rfl 2 (by decide) mw_0 rfl rfl d_Tray_put_22 ?_
      refine lv_iload_n hx hb d_Tray_put_25 rfl (lv_at hl 1 rfl) ?_
      refine cd_iast hx hb hK hW hS 2 t h_t 0 rfl rfl (vp_in_nI hc (by decide)) d_Tray_put_26 (cx_ce dA (u_val w t (x_cnt w t) v)) (by rw [nw_val, nI_clamp (by omega)]) (kp_val dA w t (x_cnt w t) v) (fun H locs hW hS => ?_)
      have hW : cx_Wo D dA b0 (u_val w t (x_cnt w t) v) H := to_val hW
      refine lv_aload_n hx hb d_Tray_put_27 rfl (lv_at hl 0 rfl) ?_
      refine lv_dup hx hb d_Tray_put_28 rfl ?_
      refine cd_get (ci := 1) (C := R_Tray) (T := F_Tray) (N := 3) (v := .int (nI (x_cnt w t))) hx hb hA i_Tray hown hK hW 1 t h_t rfl rfl 2 (by decide) mw_0 rfl rfl d_Tray_put_29 ?_
      refine lv_iconst (v := 1) hx hb d_Tray_put_32 (by decide) ?_
      refine lv_iadd hx hb d_Tray_put_33 ?_
      refine cd_put (ci := 1) (C := R_Tray) (T := F_Tray) (N := 3) (v := .int ((nI (x_cnt w t)) + 1)) hx hb hA i_Tray t_Tray t_Tray_ok n_Tray hown hK hW hS 1 t h_t rfl rfl 2 (by decide) mw_0 rfl rfl rfl rfl (Nat.le_of_ble_eq_true rfl) d_Tray_put_34 (cx_ce dA (u_cnt (u_val w t (x_cnt w t) v) t (x_cnt w t + 1))) (by rw [nw_cnt, nI_succ]; rfl) (kp_cnt dA (u_val w t (x_cnt w t) v) t (x_cnt w t + 1)) (fun H locs hW hS => ?_)
      have hW : cx_Wo D dA b0 (u_cnt (u_val w t (x_cnt w t) v) t (x_cnt w t + 1)) H := to_cnt hW
      have hf : f_Tray_put w t v = (u_cnt (u_val w t (x_cnt w t) v) t (x_cnt w t + 1)) := by
        rfl
      exact cd_vret hx hb hr hlocks hW hS d_Tray_put_37 ⟨rfl, by rw [hf], by rw [hf], by rw [hf]⟩ (Nat.le_of_ble_eq_true rfl) (Nat.le_of_ble_eq_true rfl)

def f_Tray_empty (w : cx_W) (t : Nat) : cx_W := (u_cnt w t 0)
set_option maxHeartbeats 4000000 in
set_option maxRecDepth 100000 in
theorem c_Tray_empty (l : Launch) (D : va_G) (dA : Nat → ClassId) (b0 : Nat) (w : cx_W) (t : Nat) (h_t : t < 3) : cd_Ct l D (cx_tys dA) b0 y_Tray_empty (.code y_Tray_empty b_Tray_empty 1 none :: cd_WA) { frames := 0, cells := 0, slots := 0, locals := 0 } [.ref (x_ad w 1 t)] (cx_dm w) (x_ad w) (cx_ce dA w) (cx_R dA none (f_Tray_empty w t)) 0 0 := by
  refine cd_Ct.of b_Tray_empty 1 none (by decide) rfl ?_
  intro p e s m below meth c hx hb hr hml hown hlocks hnm hA hE hb0 hW hS ls hl
  have hK := hE.1
  have hl : lv_has ls 1 [(0, .ref (x_ad w 1 t))] := hl
  refine lv_aload_n hx hb d_Tray_empty_0 rfl (lv_at hl 0 rfl) ?_
  refine lv_iconst (v := 0) hx hb d_Tray_empty_1 (by decide) ?_
  refine cd_put (ci := 1) (C := R_Tray) (T := F_Tray) (N := 3) (v := .int 0) hx hb hA i_Tray t_Tray t_Tray_ok n_Tray hown hK hW hS 1 t h_t rfl rfl 2 (by decide) mw_0 rfl rfl rfl rfl (Nat.le_of_ble_eq_true rfl) d_Tray_empty_2 (cx_ce dA (u_cnt w t 0)) (by rw [nw_cnt, nI_0]; rfl) (kp_cnt dA w t 0) (fun H locs hW hS => ?_)
  have hW : cx_Wo D dA b0 (u_cnt w t 0) H := to_cnt hW
  have hf : f_Tray_empty w t = (u_cnt w t 0) := by
    rfl
  exact cd_vret hx hb hr hlocks hW hS d_Tray_empty_5 ⟨rfl, by rw [hf], by rw [hf], by rw [hf]⟩ (Nat.le_of_ble_eq_true rfl) (Nat.le_of_ble_eq_true rfl)

def f_hash_r (v : Nat → Int32) : Nat → Int64
  | 0 => 7
  | n + 1 => 31 * f_hash_r v n + (v n).toInt64
def f_Tray_hash (w : cx_W) (t : Nat) : Int64 := f_hash_r (x_val w t) (x_cnt w t)
set_option maxHeartbeats 4000000 in
set_option maxRecDepth 100000 in
theorem c_Tray_hash (l : Launch) (D : va_G) (dA : Nat → ClassId) (b0 : Nat) (w : cx_W) (t : Nat) (h_t : t < 3) (hI : cx_Iv w) : cd_Ct l D (cx_tys dA) b0 y_Tray_hash (.code y_Tray_hash b_Tray_hash 4 (some .long) :: cd_WA) { frames := 0, cells := 0, slots := 0, locals := 0 } [.ref (x_ad w 1 t)] (cx_dm w) (x_ad w) (cx_ce dA w) (cx_R dA (some (.long (f_Tray_hash w t))) w) 0 0 := by
  refine cd_Ct.of b_Tray_hash 4 (some .long) (by decide) rfl ?_
  intro p e s m below meth c hx hb hr hml hown hlocks hnm hA hE hb0 hW hS ls hl
  have hK := hE.1
  have hl : lv_has ls 4 [(0, .ref (x_ad w 1 t))] := hl
  have hc := hI.1 t
  have loop : ∀ (d n : Nat), x_cnt w t = n + d → ∀ (ls : Array Slot) (H : Heap) (locs : List Loc), cx_Wo D dA b0 w H → va_S (cd_A b0) s.heap H locs → lv_has ls 4 [(3, .int (nI n)), (1, .long (f_hash_r (x_val w t) n)), (0, .ref (x_ad w 1 t))] → W p l e { frames := 0, cells := 0, slots := 0, locals := 0 } s m ([.ref (x_ad w 1 t)] : List Value).toArray below meth c H locs 0 0 (MQ below (cd_Q D b0 (cx_R dA (some (.long (f_Tray_hash w t))) w)) ([.ref (x_ad w 1 t)] : List Value).toArray s 0 0 (cd_A b0)) (F0 m 6 ls []) := by
    intro d
    induction d with
    | zero =>
      intro n hn ls H locs hW hS hl
      have hn : x_cnt w t = n := hn
      refine lv_iload_n hx hb d_Tray_hash_6 rfl (lv_at hl 0 rfl) ?_
      refine lv_aload_n hx hb d_Tray_hash_7 rfl (lv_at hl 2 rfl) ?_
      refine cd_get (ci := 1) (C := R_Tray) (T := F_Tray) (N := 3) (v := .int (nI (x_cnt w t))) hx hb hA i_Tray hown hK hW 1 t h_t rfl rfl 2 (by decide) mw_0 rfl rfl d_Tray_hash_8 ?_
      refine lv_icmp_ge (tgt := 34) hx hb d_Tray_hash_11 (by decide) (fun c_1 => ?_) (fun c_1 => ?_)
      · skip
        refine lv_lload_n hx hb d_Tray_hash_34 rfl (lv_at hl 1 rfl) ?_
        have hf : f_Tray_hash w t = (f_hash_r (x_val w t) n) := by
          rw [f_Tray_hash, hn]
        exact cd_lret hx hb hr hlocks hW hS d_Tray_hash_35 ⟨by rw [hf], rfl, rfl, rfl⟩ (Nat.le_of_ble_eq_true rfl) (Nat.le_of_ble_eq_true rfl)
      · skip
        exact absurd (nI_le (by omega) (by omega)) c_1
    | succ d ih =>
      intro n hn ls H locs hW hS hl
      refine lv_iload_n hx hb d_Tray_hash_6 rfl (lv_at hl 0 rfl) ?_
      refine lv_aload_n hx hb d_Tray_hash_7 rfl (lv_at hl 2 rfl) ?_
      refine cd_get (ci := 1) (C := R_Tray) (T := F_Tray) (N := 3) (v := .int (nI (x_cnt w t))) hx hb hA i_Tray hown hK hW 1 t h_t rfl rfl 2 (by decide) mw_0 rfl rfl d_Tray_hash_8 ?_
      refine lv_icmp_ge (tgt := 34) hx hb d_Tray_hash_11 (by decide) (fun c_2 => ?_) (fun c_2 => ?_)
      · skip
        exact absurd c_2 (nI_ge (by omega) (by omega))
      · skip
        refine lv_ldc2 (v := 31) hx hb hown (hA _ mw_2) d_Tray_hash_14 ?_
        refine lv_lload_n hx hb d_Tray_hash_17 rfl (lv_at hl 1 rfl) ?_
        refine lv_lmul hx hb d_Tray_hash_18 ?_
        refine lv_aload_n hx hb d_Tray_hash_19 rfl (lv_at hl 2 rfl) ?_
        refine cd_get (ci := 1) (C := R_Tray) (T := F_Tray) (N := 3) (v := .ref (x_ad w 2 t)) hx hb hA i_Tray hown hK hW 1 t h_t rfl rfl 1 (by decide) mw_1 rfl rfl d_Tray_hash_20 ?_
        refine lv_iload_n hx hb d_Tray_hash_23 rfl (lv_at hl 0 rfl) ?_
        refine cd_iald hx hb hK hW 2 t h_t 0 rfl rfl (vp_in_nI (show n < 200 by omega) (by decide)) d_Tray_hash_24 ?_
        rw [nI_clamp (show n < 2 ^ 31 by omega)]
        refine lv_i2l hx hb d_Tray_hash_25 rfl ?_
        refine lv_ladd hx hb d_Tray_hash_26 ?_
        refine lv_lstore_n (lv' := [(1, .long ((31 * (f_hash_r (x_val w t) n)) + ((x_val w t n).toInt64))), (3, .int (nI n)), (0, .ref (x_ad w 1 t))]) hx hb d_Tray_hash_27 rfl hl (by decide) rfl (fun ls hl => ?_)
        refine lv_iinc (v := (nI (n + 1))) (lv' := [(3, .int (nI (n + 1))), (1, .long ((31 * (f_hash_r (x_val w t) n)) + ((x_val w t n).toInt64))), (0, .ref (x_ad w 1 t))]) hx hb d_Tray_hash_28 hl (k := 1) rfl (by rw [show Int32.ofInt 1 = 1 by decide]; exact nI_1 _) (by decide) rfl (fun ls hl => ?_)
        refine lv_goto (tgt := 6) hx hb d_Tray_hash_31 (by decide) ?_
        exact ih (n + 1) (by omega) ls _ _ hW hS (lv_sub hl [0, 1, 2] rfl)
  refine lv_ldc2 (v := 7) hx hb hown (hA _ mw_3) d_Tray_hash_0 ?_
  refine lv_lstore_n (lv' := [(1, .long 7), (0, .ref (x_ad w 1 t))]) hx hb d_Tray_hash_3 rfl hl (by decide) rfl (fun ls hl => ?_)
  refine lv_iconst (v := 0) hx hb d_Tray_hash_4 (by decide) ?_
  refine lv_istore_n (lv' := [(3, .int 0), (1, .long 7), (0, .ref (x_ad w 1 t))]) hx hb d_Tray_hash_5 rfl hl (by decide) rfl (fun ls hl => ?_)
  exact loop (x_cnt w t) 0 (by omega) ls _ _ hW hS (lv_sub hl [0, 1, 2] rfl)

def f_sum_r (v : Nat → Int32) : Nat → Int32
  | 0 => 0
  | n + 1 => f_sum_r v n + v n
def f_Tray_sum (w : cx_W) (t : Nat) : Int32 := f_sum_r (x_val w t) (x_cnt w t)
set_option maxHeartbeats 4000000 in
set_option maxRecDepth 100000 in
theorem c_Tray_sum (l : Launch) (D : va_G) (dA : Nat → ClassId) (b0 : Nat) (w : cx_W) (t : Nat) (h_t : t < 3) (hI : cx_Iv w) : cd_Ct l D (cx_tys dA) b0 y_Tray_sum (.code y_Tray_sum b_Tray_sum 3 (some .int) :: cd_WA) { frames := 0, cells := 0, slots := 0, locals := 0 } [.ref (x_ad w 1 t)] (cx_dm w) (x_ad w) (cx_ce dA w) (cx_R dA (some (.int (f_Tray_sum w t))) w) 0 0 := by
  refine cd_Ct.of b_Tray_sum 3 (some .int) (by decide) rfl ?_
  intro p e s m below meth c hx hb hr hml hown hlocks hnm hA hE hb0 hW hS ls hl
  have hK := hE.1
  have hl : lv_has ls 3 [(0, .ref (x_ad w 1 t))] := hl
  have hc := hI.1 t
  have loop : ∀ (d n : Nat), x_cnt w t = n + d → ∀ (ls : Array Slot) (H : Heap) (locs : List Loc), cx_Wo D dA b0 w H → va_S (cd_A b0) s.heap H locs → lv_has ls 3 [(2, .int (nI n)), (1, .int (f_sum_r (x_val w t) n)), (0, .ref (x_ad w 1 t))] → W p l e { frames := 0, cells := 0, slots := 0, locals := 0 } s m ([.ref (x_ad w 1 t)] : List Value).toArray below meth c H locs 0 0 (MQ below (cd_Q D b0 (cx_R dA (some (.int (f_Tray_sum w t))) w)) ([.ref (x_ad w 1 t)] : List Value).toArray s 0 0 (cd_A b0)) (F0 m 4 ls []) := by
    intro d
    induction d with
    | zero =>
      intro n hn ls H locs hW hS hl
      have hn : x_cnt w t = n := hn
      refine lv_iload_n hx hb d_Tray_sum_4 rfl (lv_at hl 0 rfl) ?_
      refine lv_aload_n hx hb d_Tray_sum_5 rfl (lv_at hl 2 rfl) ?_
      refine cd_get (ci := 1) (C := R_Tray) (T := F_Tray) (N := 3) (v := .int (nI (x_cnt w t))) hx hb hA i_Tray hown hK hW 1 t h_t rfl rfl 2 (by decide) mw_0 rfl rfl d_Tray_sum_6 ?_
      refine lv_icmp_ge (tgt := 27) hx hb d_Tray_sum_9 (by decide) (fun c_1 => ?_) (fun c_1 => ?_)
      · skip
        refine lv_iload_n hx hb d_Tray_sum_27 rfl (lv_at hl 1 rfl) ?_
        have hf : f_Tray_sum w t = (f_sum_r (x_val w t) n) := by
          rw [f_Tray_sum, hn]
        exact cd_iret hx hb hr hlocks hW hS d_Tray_sum_28 ⟨by rw [hf], rfl, rfl, rfl⟩ (Nat.le_of_ble_eq_true rfl) (Nat.le_of_ble_eq_true rfl)
      · skip
        exact absurd (nI_le (by omega) (by omega)) c_1
    | succ d ih =>
      intro n hn ls H locs hW hS hl
      refine lv_iload_n hx hb d_Tray_sum_4 rfl (lv_at hl 0 rfl) ?_
      refine lv_aload_n hx hb d_Tray_sum_5 rfl (lv_at hl 2 rfl) ?_
      refine cd_get (ci := 1) (C := R_Tray) (T := F_Tray) (N := 3) (v := .int (nI (x_cnt w t))) hx hb hA i_Tray hown hK hW 1 t h_t rfl rfl 2 (by decide) mw_0 rfl rfl d_Tray_sum_6 ?_
      refine lv_icmp_ge (tgt := 27) hx hb d_Tray_sum_9 (by decide) (fun c_2 => ?_) (fun c_2 => ?_)
      · skip
        exact absurd c_2 (nI_ge (by omega) (by omega))
      · skip
        refine lv_iload_n hx hb d_Tray_sum_12 rfl (lv_at hl 1 rfl) ?_
        refine lv_aload_n hx hb d_Tray_sum_13 rfl (lv_at hl 2 rfl) ?_
        refine cd_get (ci := 1) (C := R_Tray) (T := F_Tray) (N := 3) (v := .ref (x_ad w 2 t)) hx hb hA i_Tray hown hK hW 1 t h_t rfl rfl 1 (by decide) mw_1 rfl rfl d_Tray_sum_14 ?_
        refine lv_iload_n hx hb d_Tray_sum_17 rfl (lv_at hl 0 rfl) ?_
        refine cd_iald hx hb hK hW 2 t h_t 0 rfl rfl (vp_in_nI (show n < 200 by omega) (by decide)) d_Tray_sum_18 ?_
        rw [nI_clamp (show n < 2 ^ 31 by omega)]
        refine lv_iadd hx hb d_Tray_sum_19 ?_
        refine lv_istore_n (lv' := [(1, .int ((f_sum_r (x_val w t) n) + (x_val w t n))), (2, .int (nI n)), (0, .ref (x_ad w 1 t))]) hx hb d_Tray_sum_20 rfl hl (by decide) rfl (fun ls hl => ?_)
        refine lv_iinc (v := (nI (n + 1))) (lv' := [(2, .int (nI (n + 1))), (1, .int ((f_sum_r (x_val w t) n) + (x_val w t n))), (0, .ref (x_ad w 1 t))]) hx hb d_Tray_sum_21 hl (k := 1) rfl (by rw [show Int32.ofInt 1 = 1 by decide]; exact nI_1 _) (by decide) rfl (fun ls hl => ?_)
        refine lv_goto (tgt := 4) hx hb d_Tray_sum_24 (by decide) ?_
        exact ih (n + 1) (by omega) ls _ _ hW hS (lv_sub hl [0, 1, 2] rfl)
  refine lv_iconst (v := 0) hx hb d_Tray_sum_0 (by decide) ?_
  refine lv_istore_n (lv' := [(1, .int 0), (0, .ref (x_ad w 1 t))]) hx hb d_Tray_sum_1 rfl hl (by decide) rfl (fun ls hl => ?_)
  refine lv_iconst (v := 0) hx hb d_Tray_sum_2 (by decide) ?_
  refine lv_istore_n (lv' := [(2, .int 0), (1, .int 0), (0, .ref (x_ad w 1 t))]) hx hb d_Tray_sum_3 rfl hl (by decide) rfl (fun ls hl => ?_)
  exact loop (x_cnt w t) 0 (by omega) ls _ _ hW hS (lv_sub hl [0, 1, 2] rfl)

def f_ck_r (v : Nat → Int32) : Nat → Int32 × Int32
  | 0 => (1, 0)
  | n + 1 => (((f_ck_r v n).1 + v n) - ((f_ck_r v n).1 + v n) / 65521 * 65521, ((f_ck_r v n).2 + (((f_ck_r v n).1 + v n) - ((f_ck_r v n).1 + v n) / 65521 * 65521)) - ((f_ck_r v n).2 + (((f_ck_r v n).1 + v n) - ((f_ck_r v n).1 + v n) / 65521 * 65521)) / 65521 * 65521)
def f_Tray_checksum (w : cx_W) (t : Nat) : Int64 := 65536 * (f_ck_r (x_val w t) (x_cnt w t)).2.toInt64 + (f_ck_r (x_val w t) (x_cnt w t)).1.toInt64
set_option maxHeartbeats 4000000 in
set_option maxRecDepth 100000 in
theorem c_Tray_checksum (l : Launch) (D : va_G) (dA : Nat → ClassId) (b0 : Nat) (w : cx_W) (t : Nat) (h_t : t < 3) (hI : cx_Iv w) : cd_Ct l D (cx_tys dA) b0 y_Tray_checksum (.code y_Tray_checksum b_Tray_checksum 4 (some .long) :: cd_WA) { frames := 0, cells := 0, slots := 0, locals := 0 } [.ref (x_ad w 1 t)] (cx_dm w) (x_ad w) (cx_ce dA w) (cx_R dA (some (.long (f_Tray_checksum w t))) w) 0 0 := by
  refine cd_Ct.of b_Tray_checksum 4 (some .long) (by decide) rfl ?_
  intro p e s m below meth c hx hb hr hml hown hlocks hnm hA hE hb0 hW hS ls hl
  have hK := hE.1
  have hl : lv_has ls 4 [(0, .ref (x_ad w 1 t))] := hl
  have hc := hI.1 t
  have loop : ∀ (d n : Nat), x_cnt w t = n + d → ∀ (ls : Array Slot) (H : Heap) (locs : List Loc), cx_Wo D dA b0 w H → va_S (cd_A b0) s.heap H locs → lv_has ls 4 [(3, .int (nI n)), (2, .int ((f_ck_r (x_val w t) n).2)), (1, .int ((f_ck_r (x_val w t) n).1)), (0, .ref (x_ad w 1 t))] → W p l e { frames := 0, cells := 0, slots := 0, locals := 0 } s m ([.ref (x_ad w 1 t)] : List Value).toArray below meth c H locs 0 0 (MQ below (cd_Q D b0 (cx_R dA (some (.long (f_Tray_checksum w t))) w)) ([.ref (x_ad w 1 t)] : List Value).toArray s 0 0 (cd_A b0)) (F0 m 6 ls []) := by
    intro d
    induction d with
    | zero =>
      intro n hn ls H locs hW hS hl
      have hn : x_cnt w t = n := hn
      refine lv_iload_n hx hb d_Tray_checksum_6 rfl (lv_at hl 0 rfl) ?_
      refine lv_aload_n hx hb d_Tray_checksum_7 rfl (lv_at hl 3 rfl) ?_
      refine cd_get (ci := 1) (C := R_Tray) (T := F_Tray) (N := 3) (v := .int (nI (x_cnt w t))) hx hb hA i_Tray hown hK hW 1 t h_t rfl rfl 2 (by decide) mw_0 rfl rfl d_Tray_checksum_8 ?_
      refine lv_icmp_ge (tgt := 39) hx hb d_Tray_checksum_11 (by decide) (fun c_1 => ?_) (fun c_1 => ?_)
      · skip
        refine lv_ldc2 (v := 65536) hx hb hown (hA _ mw_4) d_Tray_checksum_39 ?_
        refine lv_iload_n hx hb d_Tray_checksum_42 rfl (lv_at hl 1 rfl) ?_
        refine lv_i2l hx hb d_Tray_checksum_43 rfl ?_
        refine lv_lmul hx hb d_Tray_checksum_44 ?_
        refine lv_iload_n hx hb d_Tray_checksum_45 rfl (lv_at hl 2 rfl) ?_
        refine lv_i2l hx hb d_Tray_checksum_46 rfl ?_
        refine lv_ladd hx hb d_Tray_checksum_47 ?_
        have hf : f_Tray_checksum w t = ((65536 * (((f_ck_r (x_val w t) n).2).toInt64)) + (((f_ck_r (x_val w t) n).1).toInt64)) := by
          rw [f_Tray_checksum, hn]
        exact cd_lret hx hb hr hlocks hW hS d_Tray_checksum_48 ⟨by rw [hf], rfl, rfl, rfl⟩ (Nat.le_of_ble_eq_true rfl) (Nat.le_of_ble_eq_true rfl)
      · skip
        exact absurd (nI_le (by omega) (by omega)) c_1
    | succ d ih =>
      intro n hn ls H locs hW hS hl
      refine lv_iload_n hx hb d_Tray_checksum_6 rfl (lv_at hl 0 rfl) ?_
      refine lv_aload_n hx hb d_Tray_checksum_7 rfl (lv_at hl 3 rfl) ?_
      refine cd_get (ci := 1) (C := R_Tray) (T := F_Tray) (N := 3) (v := .int (nI (x_cnt w t))) hx hb hA i_Tray hown hK hW 1 t h_t rfl rfl 2 (by decide) mw_0 rfl rfl d_Tray_checksum_8 ?_
      refine lv_icmp_ge (tgt := 39) hx hb d_Tray_checksum_11 (by decide) (fun c_2 => ?_) (fun c_2 => ?_)
      · skip
        exact absurd c_2 (nI_ge (by omega) (by omega))
      · skip
        refine lv_iload_n hx hb d_Tray_checksum_14 rfl (lv_at hl 2 rfl) ?_
        refine lv_aload_n hx hb d_Tray_checksum_15 rfl (lv_at hl 3 rfl) ?_
        refine cd_get (ci := 1) (C := R_Tray) (T := F_Tray) (N := 3) (v := .ref (x_ad w 2 t)) hx hb hA i_Tray hown hK hW 1 t h_t rfl rfl 1 (by decide) mw_1 rfl rfl d_Tray_checksum_16 ?_
        refine lv_iload_n hx hb d_Tray_checksum_19 rfl (lv_at hl 0 rfl) ?_
        refine cd_iald hx hb hK hW 2 t h_t 0 rfl rfl (vp_in_nI (show n < 200 by omega) (by decide)) d_Tray_checksum_20 ?_
        rw [nI_clamp (show n < 2 ^ 31 by omega)]
        refine lv_iadd hx hb d_Tray_checksum_21 ?_
        refine lv_ldc (v := 65521) hx hb hown (hA _ mw_5) d_Tray_checksum_22 ?_
        refine lv_irem hx hb d_Tray_checksum_24 (by decide) ?_
        refine lv_istore_n (lv' := [(1, .int ((((f_ck_r (x_val w t) n).1) + (x_val w t n)) - (((f_ck_r (x_val w t) n).1) + (x_val w t n)) / 65521 * 65521)), (3, .int (nI n)), (2, .int ((f_ck_r (x_val w t) n).2)), (0, .ref (x_ad w 1 t))]) hx hb d_Tray_checksum_25 rfl hl (by decide) rfl (fun ls hl => ?_)
        refine lv_iload_n hx hb d_Tray_checksum_26 rfl (lv_at hl 2 rfl) ?_
        refine lv_iload_n hx hb d_Tray_checksum_27 rfl (lv_at hl 0 rfl) ?_
        refine lv_iadd hx hb d_Tray_checksum_28 ?_
        refine lv_ldc (v := 65521) hx hb hown (hA _ mw_5) d_Tray_checksum_29 ?_
        refine lv_irem hx hb d_Tray_checksum_31 (by decide) ?_
        refine lv_istore_n (lv' := [(2, .int ((((f_ck_r (x_val w t) n).2) + ((((f_ck_r (x_val w t) n).1) + (x_val w t n)) - (((f_ck_r (x_val w t) n).1) + (x_val w t n)) / 65521 * 65521)) - (((f_ck_r (x_val w t) n).2) + ((((f_ck_r (x_val w t) n).1) + (x_val w t n)) - (((f_ck_r (x_val w t) n).1) + (x_val w t n)) / 65521 * 65521)) / 65521 * 65521)), (1, .int ((((f_ck_r (x_val w t) n).1) + (x_val w t n)) - (((f_ck_r (x_val w t) n).1) + (x_val w t n)) / 65521 * 65521)), (3, .int (nI n)), (0, .ref (x_ad w 1 t))]) hx hb d_Tray_checksum_32 rfl hl (by decide) rfl (fun ls hl => ?_)
        refine lv_iinc (v := (nI (n + 1))) (lv' := [(3, .int (nI (n + 1))), (2, .int ((((f_ck_r (x_val w t) n).2) + ((((f_ck_r (x_val w t) n).1) + (x_val w t n)) - (((f_ck_r (x_val w t) n).1) + (x_val w t n)) / 65521 * 65521)) - (((f_ck_r (x_val w t) n).2) + ((((f_ck_r (x_val w t) n).1) + (x_val w t n)) - (((f_ck_r (x_val w t) n).1) + (x_val w t n)) / 65521 * 65521)) / 65521 * 65521)), (1, .int ((((f_ck_r (x_val w t) n).1) + (x_val w t n)) - (((f_ck_r (x_val w t) n).1) + (x_val w t n)) / 65521 * 65521)), (0, .ref (x_ad w 1 t))]) hx hb d_Tray_checksum_33 hl (k := 2) rfl (by rw [show Int32.ofInt 1 = 1 by decide]; exact nI_1 _) (by decide) rfl (fun ls hl => ?_)
        refine lv_goto (tgt := 6) hx hb d_Tray_checksum_36 (by decide) ?_
        exact ih (n + 1) (by omega) ls _ _ hW hS (lv_sub hl [0, 1, 2, 3] rfl)
  refine lv_iconst (v := 1) hx hb d_Tray_checksum_0 (by decide) ?_
  refine lv_istore_n (lv' := [(1, .int 1), (0, .ref (x_ad w 1 t))]) hx hb d_Tray_checksum_1 rfl hl (by decide) rfl (fun ls hl => ?_)
  refine lv_iconst (v := 0) hx hb d_Tray_checksum_2 (by decide) ?_
  refine lv_istore_n (lv' := [(2, .int 0), (1, .int 1), (0, .ref (x_ad w 1 t))]) hx hb d_Tray_checksum_3 rfl hl (by decide) rfl (fun ls hl => ?_)
  refine lv_iconst (v := 0) hx hb d_Tray_checksum_4 (by decide) ?_
  refine lv_istore_n (lv' := [(3, .int 0), (2, .int 0), (1, .int 1), (0, .ref (x_ad w 1 t))]) hx hb d_Tray_checksum_5 rfl hl (by decide) rfl (fun ls hl => ?_)
  exact loop (x_cnt w t) 0 (by omega) ls _ _ hW hS (lv_sub hl [0, 1, 2, 3] rfl)

def f_ch_r (v : Nat → Int32) : Nat → Int32
  | 0 => 0
  | n + 1 => if v (n + 1) = v n then f_ch_r v n else f_ch_r v n + 1
def f_Tray_changes (w : cx_W) (t : Nat) : Int32 := f_ch_r (x_val w t) (x_cnt w t - 1)
set_option maxHeartbeats 4000000 in
set_option maxRecDepth 100000 in
theorem c_Tray_changes (l : Launch) (D : va_G) (dA : Nat → ClassId) (b0 : Nat) (w : cx_W) (t : Nat) (h_t : t < 3) (hI : cx_Iv w) : cd_Ct l D (cx_tys dA) b0 y_Tray_changes (.code y_Tray_changes b_Tray_changes 3 (some .int) :: cd_WA) { frames := 0, cells := 0, slots := 0, locals := 0 } [.ref (x_ad w 1 t)] (cx_dm w) (x_ad w) (cx_ce dA w) (cx_R dA (some (.int (f_Tray_changes w t))) w) 0 0 := by
  refine cd_Ct.of b_Tray_changes 3 (some .int) (by decide) rfl ?_
  intro p e s m below meth c hx hb hr hml hown hlocks hnm hA hE hb0 hW hS ls hl
  have hK := hE.1
  have hl : lv_has ls 3 [(0, .ref (x_ad w 1 t))] := hl
  have hc := hI.1 t
  have loop : ∀ (d n : Nat), x_cnt w t - 1 = n + d → ∀ (ls : Array Slot) (H : Heap) (locs : List Loc), cx_Wo D dA b0 w H → va_S (cd_A b0) s.heap H locs → lv_has ls 3 [(2, .int (nI (n + 1))), (1, .int (f_ch_r (x_val w t) n)), (0, .ref (x_ad w 1 t))] → W p l e { frames := 0, cells := 0, slots := 0, locals := 0 } s m ([.ref (x_ad w 1 t)] : List Value).toArray below meth c H locs 0 0 (MQ below (cd_Q D b0 (cx_R dA (some (.int (f_Tray_changes w t))) w)) ([.ref (x_ad w 1 t)] : List Value).toArray s 0 0 (cd_A b0)) (F0 m 4 ls []) := by
    intro d
    induction d with
    | zero =>
      intro n hn ls H locs hW hS hl
      have hn : x_cnt w t - 1 = n := hn
      refine lv_iload_n hx hb d_Tray_changes_4 rfl (lv_at hl 0 rfl) ?_
      refine lv_aload_n hx hb d_Tray_changes_5 rfl (lv_at hl 2 rfl) ?_
      refine cd_get (ci := 1) (C := R_Tray) (T := F_Tray) (N := 3) (v := .int (nI (x_cnt w t))) hx hb hA i_Tray hown hK hW 1 t h_t rfl rfl 2 (by decide) mw_0 rfl rfl d_Tray_changes_6 ?_
      refine lv_icmp_ge (tgt := 38) hx hb d_Tray_changes_9 (by decide) (fun c_1 => ?_) (fun c_1 => ?_)
      · skip
        refine lv_iload_n hx hb d_Tray_changes_38 rfl (lv_at hl 1 rfl) ?_
        have hf : f_Tray_changes w t = (f_ch_r (x_val w t) n) := by
          rw [f_Tray_changes, hn]
        exact cd_iret hx hb hr hlocks hW hS d_Tray_changes_39 ⟨by rw [hf], rfl, rfl, rfl⟩ (Nat.le_of_ble_eq_true rfl) (Nat.le_of_ble_eq_true rfl)
      · skip
        exact absurd (nI_le (by omega) (by omega)) c_1
    | succ d ih =>
      intro n hn ls H locs hW hS hl
      refine lv_iload_n hx hb d_Tray_changes_4 rfl (lv_at hl 0 rfl) ?_
      refine lv_aload_n hx hb d_Tray_changes_5 rfl (lv_at hl 2 rfl) ?_
      refine cd_get (ci := 1) (C := R_Tray) (T := F_Tray) (N := 3) (v := .int (nI (x_cnt w t))) hx hb hA i_Tray hown hK hW 1 t h_t rfl rfl 2 (by decide) mw_0 rfl rfl d_Tray_changes_6 ?_
      refine lv_icmp_ge (tgt := 38) hx hb d_Tray_changes_9 (by decide) (fun c_2 => ?_) (fun c_2 => ?_)
      · skip
        exact absurd c_2 (nI_ge (by omega) (by omega))
      · skip
        refine lv_aload_n hx hb d_Tray_changes_12 rfl (lv_at hl 2 rfl) ?_
        refine cd_get (ci := 1) (C := R_Tray) (T := F_Tray) (N := 3) (v := .ref (x_ad w 2 t)) hx hb hA i_Tray hown hK hW 1 t h_t rfl rfl 1 (by decide) mw_1 rfl rfl d_Tray_changes_13 ?_
        refine lv_iload_n hx hb d_Tray_changes_16 rfl (lv_at hl 0 rfl) ?_
        refine cd_iald hx hb hK hW 2 t h_t 0 rfl rfl (vp_in_nI (show n + 1 < 200 by omega) (by decide)) d_Tray_changes_17 ?_
        rw [nI_clamp (show n + 1 < 2 ^ 31 by omega)]
        refine lv_aload_n hx hb d_Tray_changes_18 rfl (lv_at hl 2 rfl) ?_
        refine cd_get (ci := 1) (C := R_Tray) (T := F_Tray) (N := 3) (v := .ref (x_ad w 2 t)) hx hb hA i_Tray hown hK hW 1 t h_t rfl rfl 1 (by decide) mw_1 rfl rfl d_Tray_changes_19 ?_
        refine lv_iload_n hx hb d_Tray_changes_22 rfl (lv_at hl 0 rfl) ?_
        refine lv_iconst (v := 1) hx hb d_Tray_changes_23 (by decide) ?_
        refine lv_isub hx hb d_Tray_changes_24 ?_
        refine cd_iald hx hb hK hW 2 t h_t 0 rfl rfl (by rw [nI_pred]; exact vp_in_nI (show n < 200 by omega) (by decide)) d_Tray_changes_25 ?_
        rw [nI_pred, nI_clamp (show n < 2 ^ 31 by omega)]
        refine lv_icmp_eq (tgt := 32) hx hb d_Tray_changes_26 (by decide) (fun c_3 => ?_) (fun c_3 => ?_)
        · skip
          have hch : f_ch_r (x_val w t) n = f_ch_r (x_val w t) (n + 1) := by simp only [f_ch_r, if_pos c_3]
          refine lv_iinc (v := (nI (n + 1 + 1))) (lv' := [(2, .int (nI (n + 1 + 1))), (1, .int (f_ch_r (x_val w t) n)), (0, .ref (x_ad w 1 t))]) hx hb d_Tray_changes_32 hl (k := 0) rfl (by rw [show Int32.ofInt 1 = 1 by decide]; exact nI_1 _) (by decide) rfl (fun ls hl => ?_)
          refine lv_goto (tgt := 4) hx hb d_Tray_changes_35 (by decide) ?_
          exact ih (n + 1) (by omega) ls _ _ hW hS (lv_sub hl [0, 1, 2] (by simp only [lv_pick, List.filterMap_cons, List.filterMap_nil, List.getElem?_cons_zero, List.getElem?_cons_succ, hch]))
        · skip
          have hch : f_ch_r (x_val w t) n + 1 = f_ch_r (x_val w t) (n + 1) := by simp only [f_ch_r, if_neg c_3]
          refine lv_iinc (v := ((f_ch_r (x_val w t) n) + 1)) (lv' := [(1, .int ((f_ch_r (x_val w t) n) + 1)), (2, .int (nI (n + 1))), (0, .ref (x_ad w 1 t))]) hx hb d_Tray_changes_29 hl (k := 1) rfl (by first | rfl | decide) (by decide) rfl (fun ls hl => ?_)
          refine lv_iinc (v := (nI (n + 1 + 1))) (lv' := [(2, .int (nI (n + 1 + 1))), (1, .int ((f_ch_r (x_val w t) n) + 1)), (0, .ref (x_ad w 1 t))]) hx hb d_Tray_changes_32 hl (k := 1) rfl (by rw [show Int32.ofInt 1 = 1 by decide]; exact nI_1 _) (by decide) rfl (fun ls hl => ?_)
          refine lv_goto (tgt := 4) hx hb d_Tray_changes_35 (by decide) ?_
          exact ih (n + 1) (by omega) ls _ _ hW hS (lv_sub hl [0, 1, 2] (by simp only [lv_pick, List.filterMap_cons, List.filterMap_nil, List.getElem?_cons_zero, List.getElem?_cons_succ, hch]))
  refine lv_iconst (v := 0) hx hb d_Tray_changes_0 (by decide) ?_
  refine lv_istore_n (lv' := [(1, .int 0), (0, .ref (x_ad w 1 t))]) hx hb d_Tray_changes_1 rfl hl (by decide) rfl (fun ls hl => ?_)
  refine lv_iconst (v := 1) hx hb d_Tray_changes_2 (by decide) ?_
  refine lv_istore_n (lv' := [(2, .int 1), (1, .int 0), (0, .ref (x_ad w 1 t))]) hx hb d_Tray_changes_3 rfl hl (by decide) rfl (fun ls hl => ?_)
  exact loop (x_cnt w t - 1) 0 (by omega) ls _ _ hW hS (lv_sub hl [0, 1, 2] rfl)

