def f_CarDesk_refuse (w : cx_W) (r : Int32) : Int32 × cx_W := (r, (u_ctr w 0 ((x_ctr w 0) + 1)))
set_option maxHeartbeats 4000000 in
set_option maxRecDepth 100000 in
theorem c_CarDesk_refuse (l : Launch) (D : va_G) (dA : Nat → ClassId) (b0 : Nat) (w : cx_W) (r : Int32) : cd_Ct l D (cx_tys dA) b0 y_CarDesk_refuse (.code y_CarDesk_refuse b_CarDesk_refuse 2 (some .int) :: cd_WA) { frames := 0, cells := 0, slots := 0, locals := 0 } [.ref (x_ad w 0 0), .int r] (cx_dm w) (x_ad w) (cx_ce dA w) (cx_R dA (some (.int (f_CarDesk_refuse w r).1)) (f_CarDesk_refuse w r).2) 0 0 := by
  refine cd_Ct.of b_CarDesk_refuse 2 (some .int) (by decide) rfl ?_
  intro p e s m below meth c hx hb hr hml hown hlocks hnm hA hE hb0 hW hS ls hl
  have hK := hE.1
  have hl : lv_has ls 2 [(0, .ref (x_ad w 0 0)), (1, .int r)] := hl
  refine lv_aload_n hx hb d_CarDesk_refuse_0 rfl (lv_at hl 0 rfl) ?_
  refine lv_dup hx hb d_CarDesk_refuse_1 rfl ?_
  refine cd_get (ci := 0) (C := R_CarDesk) (T := F_CarDesk) (N := 14) (v := .int (x_ctr w 0)) hx hb hA i_CarDesk hown hK hW 0 0 rfl rfl rfl 6 (by decide) mw_21 rfl rfl d_CarDesk_refuse_2 ?_
  refine lv_iconst (v := 1) hx hb d_CarDesk_refuse_5 (by decide) ?_
  refine lv_iadd hx hb d_CarDesk_refuse_6 ?_
  refine cd_put (ci := 0) (C := R_CarDesk) (T := F_CarDesk) (N := 14) (v := .int ((x_ctr w 0) + 1)) hx hb hA i_CarDesk t_CarDesk t_CarDesk_ok n_CarDesk hown hK hW hS 0 0 rfl rfl rfl 6 (by decide) mw_21 rfl rfl rfl rfl (Nat.le_of_ble_eq_true rfl) d_CarDesk_refuse_7 (cx_ce dA (u_ctr w 0 ((x_ctr w 0) + 1))) rfl (kp_ctr dA w 0 ((x_ctr w 0) + 1)) (fun H locs hW hS => ?_)
  have hW : cx_Wo D dA b0 (u_ctr w 0 ((x_ctr w 0) + 1)) H := to_ctr hW
  refine lv_iload_n hx hb d_CarDesk_refuse_10 rfl (lv_at hl 1 rfl) ?_
  have hf : f_CarDesk_refuse w r = (r, (u_ctr w 0 ((x_ctr w 0) + 1))) := by
    rfl
  exact cd_iret hx hb hr hlocks hW hS d_CarDesk_refuse_11 ⟨by rw [hf], by rw [hf], by rw [hf], by rw [hf]⟩ (Nat.le_of_ble_eq_true rfl) (Nat.le_of_ble_eq_true rfl)

def f_CarDesk_tellFailed (w : cx_W) (f : Int32) (n : Int32) (u : Int32) : cx_W := (u_ctr (u_ctr (u_ctr (u_ctr w 1 ((x_ctr w 1) + 1)) 2 f) 3 n) 4 u)
set_option maxHeartbeats 4000000 in
set_option maxRecDepth 100000 in
theorem c_CarDesk_tellFailed (l : Launch) (D : va_G) (dA : Nat → ClassId) (b0 : Nat) (w : cx_W) (f : Int32) (n : Int32) (u : Int32) : cd_Ct l D (cx_tys dA) b0 y_CarDesk_tellFailed (.code y_CarDesk_tellFailed b_CarDesk_tellFailed 4 none :: cd_WA) { frames := 0, cells := 0, slots := 0, locals := 0 } [.ref (x_ad w 0 0), .int f, .int n, .int u] (cx_dm w) (x_ad w) (cx_ce dA w) (cx_R dA none (f_CarDesk_tellFailed w f n u)) 0 0 := by
  refine cd_Ct.of b_CarDesk_tellFailed 4 none (by decide) rfl ?_
  intro p e s m below meth c hx hb hr hml hown hlocks hnm hA hE hb0 hW hS ls hl
  have hK := hE.1
  have hl : lv_has ls 4 [(0, .ref (x_ad w 0 0)), (1, .int f), (2, .int n), (3, .int u)] := hl
  refine lv_aload_n hx hb d_CarDesk_tellFailed_0 rfl (lv_at hl 0 rfl) ?_
  refine lv_dup hx hb d_CarDesk_tellFailed_1 rfl ?_
  refine cd_get (ci := 0) (C := R_CarDesk) (T := F_CarDesk) (N := 14) (v := .int (x_ctr w 1)) hx hb hA i_CarDesk hown hK hW 0 0 rfl rfl rfl 7 (by decide) mw_22 rfl rfl d_CarDesk_tellFailed_2 ?_
  refine lv_iconst (v := 1) hx hb d_CarDesk_tellFailed_5 (by decide) ?_
  refine lv_iadd hx hb d_CarDesk_tellFailed_6 ?_
  refine cd_put (ci := 0) (C := R_CarDesk) (T := F_CarDesk) (N := 14) (v := .int ((x_ctr w 1) + 1)) hx hb hA i_CarDesk t_CarDesk t_CarDesk_ok n_CarDesk hown hK hW hS 0 0 rfl rfl rfl 7 (by decide) mw_22 rfl rfl rfl rfl (Nat.le_of_ble_eq_true rfl) d_CarDesk_tellFailed_7 (cx_ce dA (u_ctr w 1 ((x_ctr w 1) + 1))) rfl (kp_ctr dA w 1 ((x_ctr w 1) + 1)) (fun H locs hW hS => ?_)
  have hW : cx_Wo D dA b0 (u_ctr w 1 ((x_ctr w 1) + 1)) H := to_ctr hW
  refine lv_aload_n hx hb d_CarDesk_tellFailed_10 rfl (lv_at hl 0 rfl) ?_
  refine lv_iload_n hx hb d_CarDesk_tellFailed_11 rfl (lv_at hl 1 rfl) ?_
  refine cd_put (ci := 0) (C := R_CarDesk) (T := F_CarDesk) (N := 14) (v := .int f) hx hb hA i_CarDesk t_CarDesk t_CarDesk_ok n_CarDesk hown hK hW hS 0 0 rfl rfl rfl 8 (by decide) mw_23 rfl rfl rfl rfl (Nat.le_of_ble_eq_true rfl) d_CarDesk_tellFailed_12 (cx_ce dA (u_ctr (u_ctr w 1 ((x_ctr w 1) + 1)) 2 f)) rfl (kp_ctr dA (u_ctr w 1 ((x_ctr w 1) + 1)) 2 f) (fun H locs hW hS => ?_)
  have hW : cx_Wo D dA b0 (u_ctr (u_ctr w 1 ((x_ctr w 1) + 1)) 2 f) H := to_ctr hW
  refine lv_aload_n hx hb d_CarDesk_tellFailed_15 rfl (lv_at hl 0 rfl) ?_
  refine lv_iload_n hx hb d_CarDesk_tellFailed_16 rfl (lv_at hl 2 rfl) ?_
  refine cd_put (ci := 0) (C := R_CarDesk) (T := F_CarDesk) (N := 14) (v := .int n) hx hb hA i_CarDesk t_CarDesk t_CarDesk_ok n_CarDesk hown hK hW hS 0 0 rfl rfl rfl 9 (by decide) mw_24 rfl rfl rfl rfl (Nat.le_of_ble_eq_true rfl) d_CarDesk_tellFailed_17 (cx_ce dA (u_ctr (u_ctr (u_ctr w 1 ((x_ctr w 1) + 1)) 2 f) 3 n)) rfl (kp_ctr dA (u_ctr (u_ctr w 1 ((x_ctr w 1) + 1)) 2 f) 3 n) (fun H locs hW hS => ?_)
  have hW : cx_Wo D dA b0 (u_ctr (u_ctr (u_ctr w 1 ((x_ctr w 1) + 1)) 2 f) 3 n) H := to_ctr hW
  refine lv_aload_n hx hb d_CarDesk_tellFailed_20 rfl (lv_at hl 0 rfl) ?_
  refine lv_iload_n hx hb d_CarDesk_tellFailed_21 rfl (lv_at hl 3 rfl) ?_
  refine cd_put (ci := 0) (C := R_CarDesk) (T := F_CarDesk) (N := 14) (v := .int u) hx hb hA i_CarDesk t_CarDesk t_CarDesk_ok n_CarDesk hown hK hW hS 0 0 rfl rfl rfl 10 (by decide) mw_25 rfl rfl rfl rfl (Nat.le_of_ble_eq_true rfl) d_CarDesk_tellFailed_22 (cx_ce dA (u_ctr (u_ctr (u_ctr (u_ctr w 1 ((x_ctr w 1) + 1)) 2 f) 3 n) 4 u)) rfl (kp_ctr dA (u_ctr (u_ctr (u_ctr w 1 ((x_ctr w 1) + 1)) 2 f) 3 n) 4 u) (fun H locs hW hS => ?_)
  have hW : cx_Wo D dA b0 (u_ctr (u_ctr (u_ctr (u_ctr w 1 ((x_ctr w 1) + 1)) 2 f) 3 n) 4 u) H := to_ctr hW
  have hf : f_CarDesk_tellFailed w f n u = (u_ctr (u_ctr (u_ctr (u_ctr w 1 ((x_ctr w 1) + 1)) 2 f) 3 n) 4 u) := by
    rfl
  exact cd_vret hx hb hr hlocks hW hS d_CarDesk_tellFailed_25 ⟨rfl, by rw [hf], by rw [hf], by rw [hf]⟩ (Nat.le_of_ble_eq_true rfl) (Nat.le_of_ble_eq_true rfl)

def f_CarDesk_isKind (x : Int32) : Int32 := if x < 0 then 0 else if 6 ≤ x then 0 else 1
set_option maxHeartbeats 4000000 in
set_option maxRecDepth 100000 in
theorem c_CarDesk_isKind (l : Launch) (D : va_G) (dA : Nat → ClassId) (b0 : Nat) (w : cx_W) (x : Int32) : cd_Ct l D (cx_tys dA) b0 y_CarDesk_isKind (.code y_CarDesk_isKind b_CarDesk_isKind 1 (some .boolean) :: cd_WA) { frames := 0, cells := 0, slots := 0, locals := 0 } [.int x] (cx_dm w) (x_ad w) (cx_ce dA w) (cx_R dA (some (.int (f_CarDesk_isKind x))) w) 0 0 := by
  refine cd_Ct.of b_CarDesk_isKind 1 (some .boolean) (by decide) rfl ?_
  intro p e s m below meth c hx hb hr hml hown hlocks hnm hA hE hb0 hW hS ls hl
  have hK := hE.1
  have hl : lv_has ls 1 [(0, .int x)] := hl
  refine lv_iload_n hx hb d_CarDesk_isKind_0 rfl (lv_at hl 0 rfl) ?_
  refine lv_if_lt (tgt := 14) hx hb d_CarDesk_isKind_1 (by decide) (fun c_1 => ?_) (fun c_1 => ?_)
  · skip
    refine lv_iconst (v := 0) hx hb d_CarDesk_isKind_14 (by decide) ?_
    have hf : f_CarDesk_isKind x = 0 := by
      simp only [f_CarDesk_isKind, if_pos c_1]
    exact cd_zret hx hb hr hlocks hW hS d_CarDesk_isKind_15 (by decide) ⟨by rw [hf], rfl, rfl, rfl⟩ (Nat.le_of_ble_eq_true rfl) (Nat.le_of_ble_eq_true rfl)
  · skip
    refine lv_iload_n hx hb d_CarDesk_isKind_4 rfl (lv_at hl 0 rfl) ?_
    refine lv_bipush (v := 6) hx hb d_CarDesk_isKind_5 (by decide) ?_
    refine lv_icmp_ge (tgt := 14) hx hb d_CarDesk_isKind_7 (by decide) (fun c_2 => ?_) (fun c_2 => ?_)
    · skip
      refine lv_iconst (v := 0) hx hb d_CarDesk_isKind_14 (by decide) ?_
      have hf : f_CarDesk_isKind x = 0 := by
        simp only [f_CarDesk_isKind, if_neg c_1, if_pos c_2]
      exact cd_zret hx hb hr hlocks hW hS d_CarDesk_isKind_15 (by decide) ⟨by rw [hf], rfl, rfl, rfl⟩ (Nat.le_of_ble_eq_true rfl) (Nat.le_of_ble_eq_true rfl)
    · skip
      refine lv_iconst (v := 1) hx hb d_CarDesk_isKind_10 (by decide) ?_
      refine lv_goto (tgt := 15) hx hb d_CarDesk_isKind_11 (by decide) ?_
      have hf : f_CarDesk_isKind x = 1 := by
        simp only [f_CarDesk_isKind, if_neg c_1, if_neg c_2]
      exact cd_zret hx hb hr hlocks hW hS d_CarDesk_isKind_15 (by decide) ⟨by rw [hf], rfl, rfl, rfl⟩ (Nat.le_of_ble_eq_true rfl) (Nat.le_of_ble_eq_true rfl)

def f_CarDesk_isCall (x : Int32) : Int32 := if x < 0 then 0 else if 24 ≤ x then 0 else 1
set_option maxHeartbeats 4000000 in
set_option maxRecDepth 100000 in
theorem c_CarDesk_isCall (l : Launch) (D : va_G) (dA : Nat → ClassId) (b0 : Nat) (w : cx_W) (x : Int32) : cd_Ct l D (cx_tys dA) b0 y_CarDesk_isCall (.code y_CarDesk_isCall b_CarDesk_isCall 1 (some .boolean) :: cd_WA) { frames := 0, cells := 0, slots := 0, locals := 0 } [.int x] (cx_dm w) (x_ad w) (cx_ce dA w) (cx_R dA (some (.int (f_CarDesk_isCall x))) w) 0 0 := by
  refine cd_Ct.of b_CarDesk_isCall 1 (some .boolean) (by decide) rfl ?_
  intro p e s m below meth c hx hb hr hml hown hlocks hnm hA hE hb0 hW hS ls hl
  have hK := hE.1
  have hl : lv_has ls 1 [(0, .int x)] := hl
  refine lv_iload_n hx hb d_CarDesk_isCall_0 rfl (lv_at hl 0 rfl) ?_
  refine lv_if_lt (tgt := 14) hx hb d_CarDesk_isCall_1 (by decide) (fun c_1 => ?_) (fun c_1 => ?_)
  · skip
    refine lv_iconst (v := 0) hx hb d_CarDesk_isCall_14 (by decide) ?_
    have hf : f_CarDesk_isCall x = 0 := by
      simp only [f_CarDesk_isCall, if_pos c_1]
    exact cd_zret hx hb hr hlocks hW hS d_CarDesk_isCall_15 (by decide) ⟨by rw [hf], rfl, rfl, rfl⟩ (Nat.le_of_ble_eq_true rfl) (Nat.le_of_ble_eq_true rfl)
  · skip
    refine lv_iload_n hx hb d_CarDesk_isCall_4 rfl (lv_at hl 0 rfl) ?_
    refine lv_bipush (v := 24) hx hb d_CarDesk_isCall_5 (by decide) ?_
    refine lv_icmp_ge (tgt := 14) hx hb d_CarDesk_isCall_7 (by decide) (fun c_2 => ?_) (fun c_2 => ?_)
    · skip
      refine lv_iconst (v := 0) hx hb d_CarDesk_isCall_14 (by decide) ?_
      have hf : f_CarDesk_isCall x = 0 := by
        simp only [f_CarDesk_isCall, if_neg c_1, if_pos c_2]
      exact cd_zret hx hb hr hlocks hW hS d_CarDesk_isCall_15 (by decide) ⟨by rw [hf], rfl, rfl, rfl⟩ (Nat.le_of_ble_eq_true rfl) (Nat.le_of_ble_eq_true rfl)
    · skip
      refine lv_iconst (v := 1) hx hb d_CarDesk_isCall_10 (by decide) ?_
      refine lv_goto (tgt := 15) hx hb d_CarDesk_isCall_11 (by decide) ?_
      have hf : f_CarDesk_isCall x = 1 := by
        simp only [f_CarDesk_isCall, if_neg c_1, if_neg c_2]
      exact cd_zret hx hb hr hlocks hW hS d_CarDesk_isCall_15 (by decide) ⟨by rw [hf], rfl, rfl, rfl⟩ (Nat.le_of_ble_eq_true rfl) (Nat.le_of_ble_eq_true rfl)

def f_CarDesk_isArgument (x : Int64) : Int32 := if x < (-1000000000) then 0 else if 1000000000 < x then 0 else 1
set_option maxHeartbeats 4000000 in
set_option maxRecDepth 100000 in
theorem c_CarDesk_isArgument (l : Launch) (D : va_G) (dA : Nat → ClassId) (b0 : Nat) (w : cx_W) (x : Int64) : cd_Ct l D (cx_tys dA) b0 y_CarDesk_isArgument (.code y_CarDesk_isArgument b_CarDesk_isArgument 2 (some .boolean) :: cd_WA) { frames := 0, cells := 0, slots := 0, locals := 0 } [.long x] (cx_dm w) (x_ad w) (cx_ce dA w) (cx_R dA (some (.int (f_CarDesk_isArgument x))) w) 0 0 := by
  refine cd_Ct.of b_CarDesk_isArgument 2 (some .boolean) (by decide) rfl ?_
  intro p e s m below meth c hx hb hr hml hown hlocks hnm hA hE hb0 hW hS ls hl
  have hK := hE.1
  have hl : lv_has ls 2 [(0, .long x)] := hl
  refine lv_lload_n hx hb d_CarDesk_isArgument_0 rfl (lv_at hl 0 rfl) ?_
  refine lv_ldc2 (v := (-1000000000)) hx hb hown (hA _ mw_26) d_CarDesk_isArgument_1 ?_
  refine cd_lc_lt (tgt := 20) hx hb d_CarDesk_isArgument_4 d_CarDesk_isArgument_5 (by decide) (fun c_1 => ?_) (fun c_1 => ?_)
  · skip
    refine lv_iconst (v := 0) hx hb d_CarDesk_isArgument_20 (by decide) ?_
    have hf : f_CarDesk_isArgument x = 0 := by
      simp only [f_CarDesk_isArgument, if_pos c_1]
    exact cd_zret hx hb hr hlocks hW hS d_CarDesk_isArgument_21 (by decide) ⟨by rw [hf], rfl, rfl, rfl⟩ (Nat.le_of_ble_eq_true rfl) (Nat.le_of_ble_eq_true rfl)
  · skip
    refine lv_lload_n hx hb d_CarDesk_isArgument_8 rfl (lv_at hl 0 rfl) ?_
    refine lv_ldc2 (v := 1000000000) hx hb hown (hA _ mw_27) d_CarDesk_isArgument_9 ?_
    refine cd_lc_gt (tgt := 20) hx hb d_CarDesk_isArgument_12 d_CarDesk_isArgument_13 (by decide) (fun c_2 => ?_) (fun c_2 => ?_)
    · skip
      refine lv_iconst (v := 0) hx hb d_CarDesk_isArgument_20 (by decide) ?_
      have hf : f_CarDesk_isArgument x = 0 := by
        simp only [f_CarDesk_isArgument, if_neg c_1, if_pos c_2]
      exact cd_zret hx hb hr hlocks hW hS d_CarDesk_isArgument_21 (by decide) ⟨by rw [hf], rfl, rfl, rfl⟩ (Nat.le_of_ble_eq_true rfl) (Nat.le_of_ble_eq_true rfl)
    · skip
      refine lv_iconst (v := 1) hx hb d_CarDesk_isArgument_16 (by decide) ?_
      refine lv_goto (tgt := 21) hx hb d_CarDesk_isArgument_17 (by decide) ?_
      have hf : f_CarDesk_isArgument x = 1 := by
        simp only [f_CarDesk_isArgument, if_neg c_1, if_neg c_2]
      exact cd_zret hx hb hr hlocks hW hS d_CarDesk_isArgument_21 (by decide) ⟨by rw [hf], rfl, rfl, rfl⟩ (Nat.le_of_ble_eq_true rfl) (Nat.le_of_ble_eq_true rfl)

def f_CarDesk_turnedLeft (x : Int64) (y : Int32) : Int64 := ((x <<< (y.toInt64 &&& 63)) ||| ((x.toUInt64 >>> ((64 - y).toInt64.toUInt64 &&& Int64.toUInt64 63)).toInt64))
set_option maxHeartbeats 4000000 in
set_option maxRecDepth 100000 in
theorem c_CarDesk_turnedLeft (l : Launch) (D : va_G) (dA : Nat → ClassId) (b0 : Nat) (w : cx_W) (x : Int64) (y : Int32) : cd_Ct l D (cx_tys dA) b0 y_CarDesk_turnedLeft (.code y_CarDesk_turnedLeft b_CarDesk_turnedLeft 3 (some .long) :: cd_WA) { frames := 0, cells := 0, slots := 0, locals := 0 } [.long x, .int y] (cx_dm w) (x_ad w) (cx_ce dA w) (cx_R dA (some (.long (f_CarDesk_turnedLeft x y))) w) 0 0 := by
  refine cd_Ct.of b_CarDesk_turnedLeft 3 (some .long) (by decide) rfl ?_
  intro p e s m below meth c hx hb hr hml hown hlocks hnm hA hE hb0 hW hS ls hl
  have hK := hE.1
  have hl : lv_has ls 3 [(0, .long x), (2, .int y)] := hl
  refine lv_lload_n hx hb d_CarDesk_turnedLeft_0 rfl (lv_at hl 0 rfl) ?_
  refine lv_iload_n hx hb d_CarDesk_turnedLeft_1 rfl (lv_at hl 1 rfl) ?_
  refine lv_lshl hx hb d_CarDesk_turnedLeft_2 rfl ?_
  refine lv_lload_n hx hb d_CarDesk_turnedLeft_3 rfl (lv_at hl 0 rfl) ?_
  refine lv_bipush (v := 64) hx hb d_CarDesk_turnedLeft_4 (by decide) ?_
  refine lv_iload_n hx hb d_CarDesk_turnedLeft_6 rfl (lv_at hl 1 rfl) ?_
  refine lv_isub hx hb d_CarDesk_turnedLeft_7 ?_
  refine lv_lushr hx hb d_CarDesk_turnedLeft_8 rfl ?_
  refine lv_lor hx hb d_CarDesk_turnedLeft_9 ?_
  have hf : f_CarDesk_turnedLeft x y = ((x <<< (y.toInt64 &&& 63)) ||| ((x.toUInt64 >>> ((64 - y).toInt64.toUInt64 &&& Int64.toUInt64 63)).toInt64)) := by
    rfl
  exact cd_lret hx hb hr hlocks hW hS d_CarDesk_turnedLeft_10 ⟨by rw [hf], rfl, rfl, rfl⟩ (Nat.le_of_ble_eq_true rfl) (Nat.le_of_ble_eq_true rfl)

def f_CarDesk_trayOfSort (x : Int32) : Option Nat := if x = 0 then (some 0) else if x = 1 then (some 1) else if x = 2 then (some 2) else none
set_option maxHeartbeats 4000000 in
set_option maxRecDepth 100000 in
theorem c_CarDesk_trayOfSort (l : Launch) (D : va_G) (dA : Nat → ClassId) (b0 : Nat) (w : cx_W) (x : Int32) : cd_Ct l D (cx_tys dA) b0 y_CarDesk_trayOfSort (.code y_CarDesk_trayOfSort b_CarDesk_trayOfSort 2 (some (.object "CarDesk$Tray")) :: cd_WA) { frames := 0, cells := 0, slots := 0, locals := 0 } [.ref (x_ad w 0 0), .int x] (cx_dm w) (x_ad w) (cx_ce dA w) (cx_R dA (some (va_rf ((f_CarDesk_trayOfSort x).map (x_ad w 1)))) w) 0 0 := by
  refine cd_Ct.of b_CarDesk_trayOfSort 2 (some (.object "CarDesk$Tray")) (by decide) rfl ?_
  intro p e s m below meth c hx hb hr hml hown hlocks hnm hA hE hb0 hW hS ls hl
  have hK := hE.1
  have hl : lv_has ls 2 [(0, .ref (x_ad w 0 0)), (1, .int x)] := hl
  refine lv_iload_n hx hb d_CarDesk_trayOfSort_0 rfl (lv_at hl 1 rfl) ?_
  refine lv_topi (fun z_1 ez_1 => ?_)
  by_cases h_2 : z_1 = 0
  · skip
    subst h_2
    have c_3 : x = 0 := ez_1.symm
    refine lv_tableIn (tgt := 28) (off := 27) hx hb d_CarDesk_trayOfSort_1 (by decide) (by decide) (by decide) (by decide) ?_
    refine lv_aload_n hx hb d_CarDesk_trayOfSort_28 rfl (lv_at hl 0 rfl) ?_
    refine cd_get (ci := 0) (C := R_CarDesk) (T := F_CarDesk) (N := 14) (v := .ref (x_ad w 1 0)) hx hb hA i_CarDesk hown hK hW 0 0 rfl rfl rfl 0 (by decide) mw_28 rfl rfl d_CarDesk_trayOfSort_29 ?_
    have hf : f_CarDesk_trayOfSort x = some 0 := by
      simp only [f_CarDesk_trayOfSort, if_pos c_3]
    exact cd_aret hx hb hr hlocks hW hS (Or.inr ⟨_, rfl⟩) d_CarDesk_trayOfSort_32 ⟨by rw [hf]; rfl, rfl, rfl, rfl⟩ (Nat.le_of_ble_eq_true rfl) (Nat.le_of_ble_eq_true rfl)
  · skip
    have c_4 : ¬ x = 0 := fun q => h_2 (ez_1.trans q)
    by_cases h_5 : z_1 = 1
    · skip
      subst h_5
      have c_6 : x = 1 := ez_1.symm
      refine lv_tableIn (tgt := 33) (off := 32) hx hb d_CarDesk_trayOfSort_1 (by decide) (by decide) (by decide) (by decide) ?_
      refine lv_aload_n hx hb d_CarDesk_trayOfSort_33 rfl (lv_at hl 0 rfl) ?_
      refine cd_get (ci := 0) (C := R_CarDesk) (T := F_CarDesk) (N := 14) (v := .ref (x_ad w 1 1)) hx hb hA i_CarDesk hown hK hW 0 0 rfl rfl rfl 1 (by decide) mw_29 rfl rfl d_CarDesk_trayOfSort_34 ?_
      have hf : f_CarDesk_trayOfSort x = some 1 := by
        simp only [f_CarDesk_trayOfSort, if_neg c_4, if_pos c_6]
      exact cd_aret hx hb hr hlocks hW hS (Or.inr ⟨_, rfl⟩) d_CarDesk_trayOfSort_37 ⟨by rw [hf]; rfl, rfl, rfl, rfl⟩ (Nat.le_of_ble_eq_true rfl) (Nat.le_of_ble_eq_true rfl)
    · skip
      have c_7 : ¬ x = 1 := fun q => h_5 (ez_1.trans q)
      by_cases h_8 : z_1 = 2
      · skip
        subst h_8
        have c_9 : x = 2 := ez_1.symm
        refine lv_tableIn (tgt := 38) (off := 37) hx hb d_CarDesk_trayOfSort_1 (by decide) (by decide) (by decide) (by decide) ?_
        refine lv_aload_n hx hb d_CarDesk_trayOfSort_38 rfl (lv_at hl 0 rfl) ?_
        refine cd_get (ci := 0) (C := R_CarDesk) (T := F_CarDesk) (N := 14) (v := .ref (x_ad w 1 2)) hx hb hA i_CarDesk hown hK hW 0 0 rfl rfl rfl 2 (by decide) mw_30 rfl rfl d_CarDesk_trayOfSort_39 ?_
        have hf : f_CarDesk_trayOfSort x = some 2 := by
          simp only [f_CarDesk_trayOfSort, if_neg c_4, if_neg c_7, if_pos c_9]
        exact cd_aret hx hb hr hlocks hW hS (Or.inr ⟨_, rfl⟩) d_CarDesk_trayOfSort_42 ⟨by rw [hf]; rfl, rfl, rfl, rfl⟩ (Nat.le_of_ble_eq_true rfl) (Nat.le_of_ble_eq_true rfl)
      · skip
        have c_10 : ¬ x = 2 := fun q => h_8 (ez_1.trans q)
        refine lv_tableOut (tgt := 43) hx hb d_CarDesk_trayOfSort_1 (by have g0 := cd_ne 0 0 (by decide) h_2; have g1 := cd_ne 1 1 (by decide) h_5; have g2 := cd_ne 2 2 (by decide) h_8; omega) (by decide) ?_
        refine lv_null hx hb d_CarDesk_trayOfSort_43 ?_
        have hf : f_CarDesk_trayOfSort x = none := by
          simp only [f_CarDesk_trayOfSort, if_neg c_4, if_neg c_7, if_neg c_10]
        exact cd_aret hx hb hr hlocks hW hS (Or.inl rfl) d_CarDesk_trayOfSort_44 ⟨by rw [hf]; rfl, rfl, rfl, rfl⟩ (Nat.le_of_ble_eq_true rfl) (Nat.le_of_ble_eq_true rfl)
theorem lt_trayOfSort {x : Int32} {t : Nat} (h : f_CarDesk_trayOfSort x = some t) : t < 3 := by
  unfold f_CarDesk_trayOfSort at h
  repeat' split at h
  all_goals first | (cases h; done) | (cases h; decide)

def f_CarDesk_trayOfKind (x : Int32) : Option Nat := if x = 0 then (some 0) else if x = 2 then (some 1) else if x = 4 then (some 2) else none
set_option maxHeartbeats 4000000 in
set_option maxRecDepth 100000 in
theorem c_CarDesk_trayOfKind (l : Launch) (D : va_G) (dA : Nat → ClassId) (b0 : Nat) (w : cx_W) (x : Int32) : cd_Ct l D (cx_tys dA) b0 y_CarDesk_trayOfKind (.code y_CarDesk_trayOfKind b_CarDesk_trayOfKind 2 (some (.object "CarDesk$Tray")) :: cd_WA) { frames := 0, cells := 0, slots := 0, locals := 0 } [.ref (x_ad w 0 0), .int x] (cx_dm w) (x_ad w) (cx_ce dA w) (cx_R dA (some (va_rf ((f_CarDesk_trayOfKind x).map (x_ad w 1)))) w) 0 0 := by
  refine cd_Ct.of b_CarDesk_trayOfKind 2 (some (.object "CarDesk$Tray")) (by decide) rfl ?_
  intro p e s m below meth c hx hb hr hml hown hlocks hnm hA hE hb0 hW hS ls hl
  have hK := hE.1
  have hl : lv_has ls 2 [(0, .ref (x_ad w 0 0)), (1, .int x)] := hl
  refine lv_iload_n hx hb d_CarDesk_trayOfKind_0 rfl (lv_at hl 1 rfl) ?_
  refine lv_topi (fun z_1 ez_1 => ?_)
  by_cases h_2 : z_1 = 0
  · skip
    subst h_2
    have c_3 : x = 0 := ez_1.symm
    refine lv_tableIn (tgt := 36) (off := 35) hx hb d_CarDesk_trayOfKind_1 (by decide) (by decide) (by decide) (by decide) ?_
    refine lv_aload_n hx hb d_CarDesk_trayOfKind_36 rfl (lv_at hl 0 rfl) ?_
    refine cd_get (ci := 0) (C := R_CarDesk) (T := F_CarDesk) (N := 14) (v := .ref (x_ad w 1 0)) hx hb hA i_CarDesk hown hK hW 0 0 rfl rfl rfl 0 (by decide) mw_28 rfl rfl d_CarDesk_trayOfKind_37 ?_
    have hf : f_CarDesk_trayOfKind x = some 0 := by
      simp only [f_CarDesk_trayOfKind, if_pos c_3]
    exact cd_aret hx hb hr hlocks hW hS (Or.inr ⟨_, rfl⟩) d_CarDesk_trayOfKind_40 ⟨by rw [hf]; rfl, rfl, rfl, rfl⟩ (Nat.le_of_ble_eq_true rfl) (Nat.le_of_ble_eq_true rfl)
  · skip
    have c_4 : ¬ x = 0 := fun q => h_2 (ez_1.trans q)
    by_cases h_5 : z_1 = 2
    · skip
      subst h_5
      have c_6 : x = 2 := ez_1.symm
      refine lv_tableIn (tgt := 41) (off := 40) hx hb d_CarDesk_trayOfKind_1 (by decide) (by decide) (by decide) (by decide) ?_
      refine lv_aload_n hx hb d_CarDesk_trayOfKind_41 rfl (lv_at hl 0 rfl) ?_
      refine cd_get (ci := 0) (C := R_CarDesk) (T := F_CarDesk) (N := 14) (v := .ref (x_ad w 1 1)) hx hb hA i_CarDesk hown hK hW 0 0 rfl rfl rfl 1 (by decide) mw_29 rfl rfl d_CarDesk_trayOfKind_42 ?_
      have hf : f_CarDesk_trayOfKind x = some 1 := by
        simp only [f_CarDesk_trayOfKind, if_neg c_4, if_pos c_6]
      exact cd_aret hx hb hr hlocks hW hS (Or.inr ⟨_, rfl⟩) d_CarDesk_trayOfKind_45 ⟨by rw [hf]; rfl, rfl, rfl, rfl⟩ (Nat.le_of_ble_eq_true rfl) (Nat.le_of_ble_eq_true rfl)
    · skip
      have c_7 : ¬ x = 2 := fun q => h_5 (ez_1.trans q)
      by_cases h_8 : z_1 = 4
      · skip
        subst h_8
        have c_9 : x = 4 := ez_1.symm
        refine lv_tableIn (tgt := 46) (off := 45) hx hb d_CarDesk_trayOfKind_1 (by decide) (by decide) (by decide) (by decide) ?_
        refine lv_aload_n hx hb d_CarDesk_trayOfKind_46 rfl (lv_at hl 0 rfl) ?_
        refine cd_get (ci := 0) (C := R_CarDesk) (T := F_CarDesk) (N := 14) (v := .ref (x_ad w 1 2)) hx hb hA i_CarDesk hown hK hW 0 0 rfl rfl rfl 2 (by decide) mw_30 rfl rfl d_CarDesk_trayOfKind_47 ?_
        have hf : f_CarDesk_trayOfKind x = some 2 := by
          simp only [f_CarDesk_trayOfKind, if_neg c_4, if_neg c_7, if_pos c_9]
        exact cd_aret hx hb hr hlocks hW hS (Or.inr ⟨_, rfl⟩) d_CarDesk_trayOfKind_50 ⟨by rw [hf]; rfl, rfl, rfl, rfl⟩ (Nat.le_of_ble_eq_true rfl) (Nat.le_of_ble_eq_true rfl)
      · skip
        have c_10 : ¬ x = 4 := fun q => h_8 (ez_1.trans q)
        by_cases h_11 : z_1 = 1
        · skip
          subst h_11
          refine lv_tableIn (tgt := 51) (off := 50) hx hb d_CarDesk_trayOfKind_1 (by decide) (by decide) (by decide) (by decide) ?_
          refine lv_null hx hb d_CarDesk_trayOfKind_51 ?_
          have hf : f_CarDesk_trayOfKind x = none := by
            simp only [f_CarDesk_trayOfKind, if_neg c_4, if_neg c_7, if_neg c_10]
          exact cd_aret hx hb hr hlocks hW hS (Or.inl rfl) d_CarDesk_trayOfKind_52 ⟨by rw [hf]; rfl, rfl, rfl, rfl⟩ (Nat.le_of_ble_eq_true rfl) (Nat.le_of_ble_eq_true rfl)
        · skip
          by_cases h_12 : z_1 = 3
          · skip
            subst h_12
            refine lv_tableIn (tgt := 51) (off := 50) hx hb d_CarDesk_trayOfKind_1 (by decide) (by decide) (by decide) (by decide) ?_
            refine lv_null hx hb d_CarDesk_trayOfKind_51 ?_
            have hf : f_CarDesk_trayOfKind x = none := by
              simp only [f_CarDesk_trayOfKind, if_neg c_4, if_neg c_7, if_neg c_10]
            exact cd_aret hx hb hr hlocks hW hS (Or.inl rfl) d_CarDesk_trayOfKind_52 ⟨by rw [hf]; rfl, rfl, rfl, rfl⟩ (Nat.le_of_ble_eq_true rfl) (Nat.le_of_ble_eq_true rfl)
          · skip
            refine lv_tableOut (tgt := 51) hx hb d_CarDesk_trayOfKind_1 (by have g0 := cd_ne 0 0 (by decide) h_2; have g1 := cd_ne 2 2 (by decide) h_5; have g2 := cd_ne 4 4 (by decide) h_8; have g3 := cd_ne 1 1 (by decide) h_11; have g4 := cd_ne 3 3 (by decide) h_12; omega) (by decide) ?_
            refine lv_null hx hb d_CarDesk_trayOfKind_51 ?_
            have hf : f_CarDesk_trayOfKind x = none := by
              simp only [f_CarDesk_trayOfKind, if_neg c_4, if_neg c_7, if_neg c_10]
            exact cd_aret hx hb hr hlocks hW hS (Or.inl rfl) d_CarDesk_trayOfKind_52 ⟨by rw [hf]; rfl, rfl, rfl, rfl⟩ (Nat.le_of_ble_eq_true rfl) (Nat.le_of_ble_eq_true rfl)
theorem lt_trayOfKind {x : Int32} {t : Nat} (h : f_CarDesk_trayOfKind x = some t) : t < 3 := by
  unfold f_CarDesk_trayOfKind at h
  repeat' split at h
  all_goals first | (cases h; done) | (cases h; decide)

def f_CarDesk_canBeMade (w : cx_W) (x : Int32) : Int32 := cd_oc (f_CarDesk_trayOfKind x) (if x = 1 then (cd_oc (f_Shelf_newest w 0) 0 (fun j_7 => 1)) else cd_oc (f_Shelf_newest w 1) 0 (fun j_5 => 1)) (fun j_2 => if (nI (x_cnt w j_2)) ≤ 0 then 0 else 1)
set_option maxHeartbeats 4000000 in
set_option maxRecDepth 100000 in
theorem c_CarDesk_canBeMade (l : Launch) (D : va_G) (dA : Nat → ClassId) (b0 : Nat) (w : cx_W) (x : Int32) (hI : cx_Iv w) : cd_Ct l D (cx_tys dA) b0 y_CarDesk_canBeMade (.code y_CarDesk_canBeMade b_CarDesk_canBeMade 4 (some .boolean) :: cd_WA) { frames := 2, cells := 0, slots := 0, locals := 44 } [.ref (x_ad w 0 0), .int x] (cx_dm w) (x_ad w) (cx_ce dA w) (cx_R dA (some (.int (f_CarDesk_canBeMade w x))) w) 0 0 := by
  refine cd_Ct.of b_CarDesk_canBeMade 4 (some .boolean) (by decide) rfl ?_
  intro p e s m below meth c hx hb hr hml hown hlocks hnm hA hE hb0 hW hS ls hl
  have hK := hE.1
  have hl : lv_has ls 4 [(0, .ref (x_ad w 0 0)), (1, .int x)] := hl
  refine lv_aload_n hx hb d_CarDesk_canBeMade_0 rfl (lv_at hl 0 rfl) ?_
  refine lv_iload_n hx hb d_CarDesk_canBeMade_1 rfl (lv_at hl 1 rfl) ?_
  refine cx_cV (w0 := w) (x0 := va_rf ((f_CarDesk_trayOfKind x).map (x_ad w 1))) (rest := []) (n := 1) ⟨hx, hb, hml, hown, hA⟩ (cd_GA mw_31) hE hb0 hW hS 0 0 rfl rfl rfl (c_CarDesk_trayOfKind l D dA b0 w x) mw_35 mw_33 mw_34 mw_32 (by decide +kernel) rfl rfl ⟨by decide, by decide⟩ rfl hl.1 rfl (Nat.le_of_ble_eq_true rfl) d_CarDesk_canBeMade_2 ⟨by decide, by decide⟩ (fun H locs hW hS => ?_)
  rcases ho_1 : (f_CarDesk_trayOfKind x) with _ | j_2
  · skip
    refine lv_astore_nN (lv' := [(2, .null), (0, .ref (x_ad w 0 0)), (1, .int x)]) hx hb d_CarDesk_canBeMade_5 rfl hl (by decide) rfl (fun ls hl => ?_)
    refine lv_aload_nN hx hb d_CarDesk_canBeMade_6 rfl (lv_at hl 0 rfl) ?_
    refine lv_ifnullN (tgt := 23) hx hb d_CarDesk_canBeMade_7 (by decide) ?_
    refine lv_iload_n hx hb d_CarDesk_canBeMade_23 rfl (lv_at hl 2 rfl) ?_
    refine lv_iconst (v := 1) hx hb d_CarDesk_canBeMade_24 (by decide) ?_
    refine lv_icmp_ne (tgt := 32) hx hb d_CarDesk_canBeMade_25 (by decide) (fun c_3 => ?_) (fun c_3 => ?_)
    · skip
      refine lv_iconst (v := 1) hx hb d_CarDesk_canBeMade_32 (by decide) ?_
      refine lv_istore_n (lv' := [(3, .int 1), (2, .null), (0, .ref (x_ad w 0 0)), (1, .int x)]) hx hb d_CarDesk_canBeMade_33 rfl hl (by decide) rfl (fun ls hl => ?_)
      refine lv_aload_n hx hb d_CarDesk_canBeMade_34 rfl (lv_at hl 2 rfl) ?_
      refine cd_get (ci := 0) (C := R_CarDesk) (T := F_CarDesk) (N := 14) (v := .ref (x_ad w 3 0)) hx hb hA i_CarDesk hown hK hW 0 0 rfl rfl rfl 3 (by decide) mw_36 rfl rfl d_CarDesk_canBeMade_35 ?_
      refine lv_iload_n hx hb d_CarDesk_canBeMade_38 rfl (lv_at hl 0 rfl) ?_
      refine cd_aald hx hb hK hW 3 0 rfl 2 rfl rfl (by first | exact vp_in_nI (n := 0) (by decide) (by decide) | exact vp_in_nI (n := 1) (by decide) (by decide)) d_CarDesk_canBeMade_39 ?_
      rw [show ((1 : Int32)).toNatClampNeg = 1 by decide]
      refine cx_cVN (w0 := w) (x0 := va_rf ((f_Shelf_newest w 1).map (x_ad w 8))) (rest := []) (n := 0) ⟨hx, hb, hml, hown, hA⟩ (cd_GA mw_37) hE hb0 hW hS 4 1 (show (1 : Nat) < 6 from by decide) rfl rfl (c_Shelf_newest l D dA b0 w 1 (show (1 : Nat) < 6 from by decide) hI) nn_2 mw_38 mw_39 mw_13 (by decide +kernel) rfl rfl ⟨by decide, by decide⟩ rfl hl.1 rfl (Nat.le_of_ble_eq_true rfl) d_CarDesk_canBeMade_40 ⟨by decide, by decide⟩ (fun H locs hW hS => ?_)
      rcases ho_4 : (f_Shelf_newest w 1) with _ | j_5
      · skip
        refine lv_ifnullN (tgt := 50) hx hb d_CarDesk_canBeMade_43 (by decide) ?_
        refine lv_iconst (v := 0) hx hb d_CarDesk_canBeMade_50 (by decide) ?_
        have hf : f_CarDesk_canBeMade w x = 0 := by
          simp only [f_CarDesk_canBeMade, cd_oc_n ho_1, if_neg c_3, cd_oc_n ho_4]
        exact cd_zret hx hb hr hlocks hW hS d_CarDesk_canBeMade_51 (by decide) ⟨by rw [hf], rfl, rfl, rfl⟩ (Nat.le_of_ble_eq_true rfl) (Nat.le_of_ble_eq_true rfl)
      · skip
        have h_j_5 : x_al w j_5 := al_Shelf_newest hI ho_4
        refine lv_ifnull hx hb d_CarDesk_canBeMade_43 ?_
        refine lv_iconst (v := 1) hx hb d_CarDesk_canBeMade_46 (by decide) ?_
        refine lv_goto (tgt := 51) hx hb d_CarDesk_canBeMade_47 (by decide) ?_
        have hf : f_CarDesk_canBeMade w x = 1 := by
          simp only [f_CarDesk_canBeMade, cd_oc_n ho_1, if_neg c_3, cd_oc_s ho_4]
        exact cd_zret hx hb hr hlocks hW hS d_CarDesk_canBeMade_51 (by decide) ⟨by rw [hf], rfl, rfl, rfl⟩ (Nat.le_of_ble_eq_true rfl) (Nat.le_of_ble_eq_true rfl)
    · skip
      refine lv_iconst (v := 0) hx hb d_CarDesk_canBeMade_28 (by decide) ?_
      refine lv_goto (tgt := 33) hx hb d_CarDesk_canBeMade_29 (by decide) ?_
      refine lv_istore_n (lv' := [(3, .int 0), (2, .null), (0, .ref (x_ad w 0 0)), (1, .int x)]) hx hb d_CarDesk_canBeMade_33 rfl hl (by decide) rfl (fun ls hl => ?_)
      refine lv_aload_n hx hb d_CarDesk_canBeMade_34 rfl (lv_at hl 2 rfl) ?_
      refine cd_get (ci := 0) (C := R_CarDesk) (T := F_CarDesk) (N := 14) (v := .ref (x_ad w 3 0)) hx hb hA i_CarDesk hown hK hW 0 0 rfl rfl rfl 3 (by decide) mw_36 rfl rfl d_CarDesk_canBeMade_35 ?_
      refine lv_iload_n hx hb d_CarDesk_canBeMade_38 rfl (lv_at hl 0 rfl) ?_
      refine cd_aald hx hb hK hW 3 0 rfl 2 rfl rfl (by first | exact vp_in_nI (n := 0) (by decide) (by decide) | exact vp_in_nI (n := 1) (by decide) (by decide)) d_CarDesk_canBeMade_39 ?_
      rw [show ((0 : Int32)).toNatClampNeg = 0 by decide]
      refine cx_cVN (w0 := w) (x0 := va_rf ((f_Shelf_newest w 0).map (x_ad w 8))) (rest := []) (n := 0) ⟨hx, hb, hml, hown, hA⟩ (cd_GA mw_37) hE hb0 hW hS 4 0 (show (0 : Nat) < 6 from by decide) rfl rfl (c_Shelf_newest l D dA b0 w 0 (show (0 : Nat) < 6 from by decide) hI) nn_2 mw_38 mw_39 mw_13 (by decide +kernel) rfl rfl ⟨by decide, by decide⟩ rfl hl.1 rfl (Nat.le_of_ble_eq_true rfl) d_CarDesk_canBeMade_40 ⟨by decide, by decide⟩ (fun H locs hW hS => ?_)
      rcases ho_6 : (f_Shelf_newest w 0) with _ | j_7
      · skip
        refine lv_ifnullN (tgt := 50) hx hb d_CarDesk_canBeMade_43 (by decide) ?_
        refine lv_iconst (v := 0) hx hb d_CarDesk_canBeMade_50 (by decide) ?_
        have hf : f_CarDesk_canBeMade w x = 0 := by
          simp only [f_CarDesk_canBeMade, cd_oc_n ho_1, if_pos c_3, cd_oc_n ho_6]
        exact cd_zret hx hb hr hlocks hW hS d_CarDesk_canBeMade_51 (by decide) ⟨by rw [hf], rfl, rfl, rfl⟩ (Nat.le_of_ble_eq_true rfl) (Nat.le_of_ble_eq_true rfl)
      · skip
        have h_j_7 : x_al w j_7 := al_Shelf_newest hI ho_6
        refine lv_ifnull hx hb d_CarDesk_canBeMade_43 ?_
        refine lv_iconst (v := 1) hx hb d_CarDesk_canBeMade_46 (by decide) ?_
        refine lv_goto (tgt := 51) hx hb d_CarDesk_canBeMade_47 (by decide) ?_
        have hf : f_CarDesk_canBeMade w x = 1 := by
          simp only [f_CarDesk_canBeMade, cd_oc_n ho_1, if_pos c_3, cd_oc_s ho_6]
        exact cd_zret hx hb hr hlocks hW hS d_CarDesk_canBeMade_51 (by decide) ⟨by rw [hf], rfl, rfl, rfl⟩ (Nat.le_of_ble_eq_true rfl) (Nat.le_of_ble_eq_true rfl)
  · skip
    have h_j_2 : j_2 < 3 := lt_trayOfKind ho_1
    refine lv_astore_n (lv' := [(2, .ref (x_ad w 1 j_2)), (0, .ref (x_ad w 0 0)), (1, .int x)]) hx hb d_CarDesk_canBeMade_5 rfl hl (by decide) rfl (fun ls hl => ?_)
    refine lv_aload_n hx hb d_CarDesk_canBeMade_6 rfl (lv_at hl 0 rfl) ?_
    refine lv_ifnull hx hb d_CarDesk_canBeMade_7 ?_
    refine lv_aload_n hx hb d_CarDesk_canBeMade_10 rfl (lv_at hl 0 rfl) ?_
    refine cd_getN (ci := 1) (C := R_Tray) (T := F_Tray) (N := 3) (v := .int (nI (x_cnt w j_2))) hx hb hA i_Tray hown hE hW 1 j_2 h_j_2 rfl rfl 2 (by decide) nn_3 rfl rfl d_CarDesk_canBeMade_11 ?_
    refine lv_if_le (tgt := 21) hx hb d_CarDesk_canBeMade_14 (by decide) (fun c_8 => ?_) (fun c_8 => ?_)
    · skip
      refine lv_iconst (v := 0) hx hb d_CarDesk_canBeMade_21 (by decide) ?_
      have hf : f_CarDesk_canBeMade w x = 0 := by
        simp only [f_CarDesk_canBeMade, cd_oc_s ho_1, if_pos c_8]
      exact cd_zret hx hb hr hlocks hW hS d_CarDesk_canBeMade_22 (by decide) ⟨by rw [hf], rfl, rfl, rfl⟩ (Nat.le_of_ble_eq_true rfl) (Nat.le_of_ble_eq_true rfl)
    · skip
      refine lv_iconst (v := 1) hx hb d_CarDesk_canBeMade_17 (by decide) ?_
      refine lv_goto (tgt := 22) hx hb d_CarDesk_canBeMade_18 (by decide) ?_
      have hf : f_CarDesk_canBeMade w x = 1 := by
        simp only [f_CarDesk_canBeMade, cd_oc_s ho_1, if_neg c_8]
      exact cd_zret hx hb hr hlocks hW hS d_CarDesk_canBeMade_22 (by decide) ⟨by rw [hf], rfl, rfl, rfl⟩ (Nat.le_of_ble_eq_true rfl) (Nat.le_of_ble_eq_true rfl)

def f_CarDesk_sourceOf (w : cx_W) (x : Int32) : Option Nat := if x = 1 then (f_Shelf_newest w 0) else if x = 3 then (f_Shelf_newest w 1) else none
set_option maxHeartbeats 4000000 in
set_option maxRecDepth 100000 in
theorem c_CarDesk_sourceOf (l : Launch) (D : va_G) (dA : Nat → ClassId) (b0 : Nat) (w : cx_W) (x : Int32) (hI : cx_Iv w) : cd_Ct l D (cx_tys dA) b0 y_CarDesk_sourceOf (.code y_CarDesk_sourceOf b_CarDesk_sourceOf 2 (some (.object "CarDesk$Thing")) :: cd_WA) { frames := 2, cells := 0, slots := 0, locals := 44 } [.ref (x_ad w 0 0), .int x] (cx_dm w) (x_ad w) (cx_ce dA w) (cx_R dA (some (va_rf ((f_CarDesk_sourceOf w x).map (x_ad w 8)))) w) 0 0 := by
  refine cd_Ct.of b_CarDesk_sourceOf 2 (some (.object "CarDesk$Thing")) (by decide) rfl ?_
  intro p e s m below meth c hx hb hr hml hown hlocks hnm hA hE hb0 hW hS ls hl
  have hK := hE.1
  have hl : lv_has ls 2 [(0, .ref (x_ad w 0 0)), (1, .int x)] := hl
  refine lv_iload_n hx hb d_CarDesk_sourceOf_0 rfl (lv_at hl 1 rfl) ?_
  refine lv_topi (fun z_1 ez_1 => ?_)
  by_cases h_2 : z_1 = 1
  · skip
    subst h_2
    have c_3 : x = 1 := ez_1.symm
    refine lv_lookup (tgt := 28) (off := 27) hx hb d_CarDesk_sourceOf_1 (by decide) (by decide) (by decide) ?_
    refine lv_aload_n hx hb d_CarDesk_sourceOf_28 rfl (lv_at hl 0 rfl) ?_
    refine cd_get (ci := 0) (C := R_CarDesk) (T := F_CarDesk) (N := 14) (v := .ref (x_ad w 3 0)) hx hb hA i_CarDesk hown hK hW 0 0 rfl rfl rfl 3 (by decide) mw_36 rfl rfl d_CarDesk_sourceOf_29 ?_
    refine lv_iconst (v := 0) hx hb d_CarDesk_sourceOf_32 (by decide) ?_
    refine cd_aald hx hb hK hW 3 0 rfl 2 rfl rfl (vp_in_nI (n := 0) (by decide) (by decide)) d_CarDesk_sourceOf_33 ?_
    rw [show ((0 : Int32)).toNatClampNeg = 0 by decide]
    refine cx_cVN (w0 := w) (x0 := va_rf ((f_Shelf_newest w 0).map (x_ad w 8))) (rest := []) (n := 0) ⟨hx, hb, hml, hown, hA⟩ (cd_GA mw_37) hE hb0 hW hS 4 0 (show (0 : Nat) < 6 from by decide) rfl rfl (c_Shelf_newest l D dA b0 w 0 (show (0 : Nat) < 6 from by decide) hI) nn_2 mw_38 mw_39 mw_13 (by decide +kernel) rfl rfl ⟨by decide, by decide⟩ rfl hl.1 rfl (Nat.le_of_ble_eq_true rfl) d_CarDesk_sourceOf_34 ⟨by decide, by decide⟩ (fun H locs hW hS => ?_)
    have hf : f_CarDesk_sourceOf w x = (f_Shelf_newest w 0) := by
      simp only [f_CarDesk_sourceOf, if_pos c_3]
    exact cd_aret hx hb hr hlocks hW hS (va_rf_or _) d_CarDesk_sourceOf_37 ⟨by rw [hf], rfl, rfl, rfl⟩ (Nat.le_of_ble_eq_true rfl) (Nat.le_of_ble_eq_true rfl)
  · skip
    have c_4 : ¬ x = 1 := fun q => h_2 (ez_1.trans q)
    by_cases h_5 : z_1 = 3
    · skip
      subst h_5
      have c_6 : x = 3 := ez_1.symm
      refine lv_lookup (tgt := 38) (off := 37) hx hb d_CarDesk_sourceOf_1 (by decide) (by decide) (by decide) ?_
      refine lv_aload_n hx hb d_CarDesk_sourceOf_38 rfl (lv_at hl 0 rfl) ?_
      refine cd_get (ci := 0) (C := R_CarDesk) (T := F_CarDesk) (N := 14) (v := .ref (x_ad w 3 0)) hx hb hA i_CarDesk hown hK hW 0 0 rfl rfl rfl 3 (by decide) mw_36 rfl rfl d_CarDesk_sourceOf_39 ?_
      refine lv_iconst (v := 1) hx hb d_CarDesk_sourceOf_42 (by decide) ?_
      refine cd_aald hx hb hK hW 3 0 rfl 2 rfl rfl (vp_in_nI (n := 1) (by decide) (by decide)) d_CarDesk_sourceOf_43 ?_
      rw [show ((1 : Int32)).toNatClampNeg = 1 by decide]
      refine cx_cVN (w0 := w) (x0 := va_rf ((f_Shelf_newest w 1).map (x_ad w 8))) (rest := []) (n := 0) ⟨hx, hb, hml, hown, hA⟩ (cd_GA mw_37) hE hb0 hW hS 4 1 (show (1 : Nat) < 6 from by decide) rfl rfl (c_Shelf_newest l D dA b0 w 1 (show (1 : Nat) < 6 from by decide) hI) nn_2 mw_38 mw_39 mw_13 (by decide +kernel) rfl rfl ⟨by decide, by decide⟩ rfl hl.1 rfl (Nat.le_of_ble_eq_true rfl) d_CarDesk_sourceOf_44 ⟨by decide, by decide⟩ (fun H locs hW hS => ?_)
      have hf : f_CarDesk_sourceOf w x = (f_Shelf_newest w 1) := by
        simp only [f_CarDesk_sourceOf, if_neg c_4, if_pos c_6]
      exact cd_aret hx hb hr hlocks hW hS (va_rf_or _) d_CarDesk_sourceOf_47 ⟨by rw [hf], rfl, rfl, rfl⟩ (Nat.le_of_ble_eq_true rfl) (Nat.le_of_ble_eq_true rfl)
    · skip
      have c_7 : ¬ x = 3 := fun q => h_5 (ez_1.trans q)
      refine lv_lookup (tgt := 48) (off := 47) hx hb d_CarDesk_sourceOf_1 (by decide) (by first | (rw [lv_osw h_2 (by decide), lv_osw h_5 (by decide)]; rfl) | (show Op.lookupswitch.offset [(1, 27), (3, 37)] 47 _ = _; rw [lv_osw h_2 (by decide), lv_osw h_5 (by decide)]; rfl)) (by decide) ?_
      refine lv_null hx hb d_CarDesk_sourceOf_48 ?_
      have hf : f_CarDesk_sourceOf w x = none := by
        simp only [f_CarDesk_sourceOf, if_neg c_4, if_neg c_7]
      exact cd_aret hx hb hr hlocks hW hS (Or.inl rfl) d_CarDesk_sourceOf_49 ⟨by rw [hf]; rfl, rfl, rfl, rfl⟩ (Nat.le_of_ble_eq_true rfl) (Nat.le_of_ble_eq_true rfl)
theorem al_sourceOf {w : cx_W} (hI : cx_Iv w) {x : Int32} {j : Nat} (h : f_CarDesk_sourceOf w x = some j) : x_al w j := by
  unfold f_CarDesk_sourceOf at h
  repeat' split at h
  all_goals first | (cases h; done) | exact al_Shelf_newest hI h

