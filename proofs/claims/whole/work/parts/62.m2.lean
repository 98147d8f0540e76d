def f_sp_r (w : cm_W) (y : Int64) : Nat → Int64
  | 0 => y
  | n + 1 => f_sp_r w y n + (if x_mi w 6 (65 + n) = 0 then 0 else x_ml w 7 (65 + n))
def f_Model_stepped (w : cm_W) (x : Int32) (n0 : Int32) (y : Int64) : Int64 := if (x - x / 6 * 6) = 0 then (x_ml w 7 n0.toNatClampNeg ^^^ y) else if (x - x / 6 * 6) = 1 then (((31 * x_ml w 7 n0.toNatClampNeg) + y) + x_ml w 4 x.toNatClampNeg) else if (x - x / 6 * 6) = 2 then (if ((y &&& 63).toInt32) = 0 then x_ml w 7 n0.toNatClampNeg else ((x_ml w 7 n0.toNatClampNeg <<< (((y &&& 63).toInt32).toInt64 &&& 63)) ||| ((x_ml w 7 n0.toNatClampNeg).toUInt64 >>> ((64 - ((y &&& 63).toInt32)).toInt64.toUInt64 &&& Int64.toUInt64 63)).toInt64)) else if (x - x / 6 * 6) = 3 then ((x_ml w 7 n0.toNatClampNeg + x_ml w 7 (x_mi w 9 n0.toNatClampNeg).toNatClampNeg) + y) else if (x - x / 6 * 6) = 4 then (x_ml w 7 n0.toNatClampNeg + (y * x_ml w 4 x.toNatClampNeg)) else f_sp_r w y 20
set_option maxHeartbeats 4000000 in
set_option maxRecDepth 100000 in
theorem c_Model_stepped (l : Launch) (D : va_G) (dA : Nat → ClassId) (b0 : Nat) (w : cm_W) (x : Int32) (n0 : Int32) (y : Int64) (hcl : vp_in x 24) (hn0 : vp_in n0 384) (hof : (x - x / 6 * 6) = 3 → vp_in (x_mi w 9 n0.toNatClampNeg) 384) : cd_Ct l D (cx_tys dA) b0 y_Model_stepped (.code y_Model_stepped b_Model_stepped 10 (some .long) :: cd_WA) { frames := 0, cells := 0, slots := 0, locals := 0 } [.ref (m_ad w 9 0), .int x, .int n0, .long y] (cm_dm w) (m_ad w) (cm_ce dA w) (cm_R dA (some (.long (f_Model_stepped w x n0 y))) w) 0 0 := by
  refine cd_Ct.of b_Model_stepped 10 (some .long) (by decide) rfl ?_
  intro p e s m below meth c hx hb hr hml hown hlocks hnm hA hE hb0 hW hS ls hl
  have hK := hE.1
  have hl : lv_has ls 10 [(0, .ref (m_ad w 9 0)), (1, .int x), (2, .int n0), (3, .long y)] := hl
  refine lv_aload_n hx hb d_Model_stepped_0 rfl (lv_at hl 0 rfl) ?_
  refine cd_get (ci := 4) (C := R_Model) (T := F_Model) (N := 20) (v := .ref (m_ad w 10 7)) hx hb hA i_Model hown hK hW 9 0 rfl rfl rfl 8 (by decide) mw_211 rfl rfl d_Model_stepped_1 ?_
  refine lv_iload_n hx hb d_Model_stepped_4 rfl (lv_at hl 2 rfl) ?_
  refine cd_lald hx hb hK hW 10 7 (show (7 : Nat) < 11 from by decide) 1 rfl rfl hn0 d_Model_stepped_5 ?_
  refine lv_lstore (lv' := [(5, .long (x_ml w 7 n0.toNatClampNeg)), (0, .ref (m_ad w 9 0)), (1, .int x), (2, .int n0), (3, .long y)]) hx hb d_Model_stepped_6 hl (by decide) rfl (fun ls hl => ?_)
  refine lv_iload_n hx hb d_Model_stepped_8 rfl (lv_at hl 2 rfl) ?_
  refine lv_bipush (v := 6) hx hb d_Model_stepped_9 (by decide) ?_
  refine lv_irem hx hb d_Model_stepped_11 (by decide) ?_
  refine lv_topi (fun z_1 ez_1 => ?_)
  by_cases h_2 : z_1 = 0
  · skip
    subst h_2
    have c_3 : (x - x / 6 * 6) = 0 := ez_1.symm
    refine lv_tableIn (tgt := 48) (off := 36) hx hb d_Model_stepped_12 (by decide) (by decide) (by decide) (by decide) ?_
    refine lv_lload hx hb d_Model_stepped_48 (lv_at hl 0 rfl) ?_
    refine lv_lload_n hx hb d_Model_stepped_50 rfl (lv_at hl 4 rfl) ?_
    refine lv_lxor hx hb d_Model_stepped_51 ?_
    have hf : f_Model_stepped w x n0 y = ((x_ml w 7 n0.toNatClampNeg) ^^^ y) := by
      simp only [f_Model_stepped, if_pos c_3]
    exact cd_lret hx hb hr hlocks hW hS d_Model_stepped_52 ⟨by rw [hf], rfl, rfl, rfl⟩ (Nat.le_of_ble_eq_true rfl) (Nat.le_of_ble_eq_true rfl)
  · skip
    have c_4 : ¬ (x - x / 6 * 6) = 0 := fun q => h_2 (ez_1.trans q)
    by_cases h_5 : z_1 = 1
    · skip
      subst h_5
      have c_6 : (x - x / 6 * 6) = 1 := ez_1.symm
      refine lv_tableIn (tgt := 53) (off := 41) hx hb d_Model_stepped_12 (by decide) (by decide) (by decide) (by decide) ?_
      refine lv_ldc2 (v := 31) hx hb hown (hA _ mw_192) d_Model_stepped_53 ?_
      refine lv_lload hx hb d_Model_stepped_56 (lv_at hl 0 rfl) ?_
      refine lv_lmul hx hb d_Model_stepped_58 ?_
      refine lv_lload_n hx hb d_Model_stepped_59 rfl (lv_at hl 4 rfl) ?_
      refine lv_ladd hx hb d_Model_stepped_60 ?_
      refine lv_aload_n hx hb d_Model_stepped_61 rfl (lv_at hl 1 rfl) ?_
      refine cd_get (ci := 4) (C := R_Model) (T := F_Model) (N := 20) (v := .ref (m_ad w 10 4)) hx hb hA i_Model hown hK hW 9 0 rfl rfl rfl 5 (by decide) mw_181 rfl rfl d_Model_stepped_62 ?_
      refine lv_iload_n hx hb d_Model_stepped_65 rfl (lv_at hl 2 rfl) ?_
      refine cd_lald hx hb hK hW 10 4 (show (4 : Nat) < 11 from by decide) 1 rfl rfl hcl d_Model_stepped_66 ?_
      refine lv_ladd hx hb d_Model_stepped_67 ?_
      have hf : f_Model_stepped w x n0 y = (((31 * (x_ml w 7 n0.toNatClampNeg)) + y) + (x_ml w 4 x.toNatClampNeg)) := by
        simp only [f_Model_stepped, if_neg c_4, if_pos c_6]
      exact cd_lret hx hb hr hlocks hW hS d_Model_stepped_68 ⟨by rw [hf], rfl, rfl, rfl⟩ (Nat.le_of_ble_eq_true rfl) (Nat.le_of_ble_eq_true rfl)
    · skip
      have c_7 : ¬ (x - x / 6 * 6) = 1 := fun q => h_5 (ez_1.trans q)
      by_cases h_8 : z_1 = 2
      · skip
        subst h_8
        have c_9 : (x - x / 6 * 6) = 2 := ez_1.symm
        refine lv_tableIn (tgt := 69) (off := 57) hx hb d_Model_stepped_12 (by decide) (by decide) (by decide) (by decide) ?_
        refine lv_lload_n hx hb d_Model_stepped_69 rfl (lv_at hl 4 rfl) ?_
        refine lv_ldc2 (v := 63) hx hb hown (hA _ mw_212) d_Model_stepped_70 ?_
        refine lv_land hx hb d_Model_stepped_73 ?_
        refine lv_l2i hx hb d_Model_stepped_74 rfl ?_
        refine lv_istore (lv' := [(7, .int ((y &&& 63).toInt32)), (5, .long (x_ml w 7 n0.toNatClampNeg)), (0, .ref (m_ad w 9 0)), (1, .int x), (2, .int n0), (3, .long y)]) hx hb d_Model_stepped_75 hl (by decide) rfl (fun ls hl => ?_)
        refine lv_iload hx hb d_Model_stepped_77 (lv_at hl 0 rfl) ?_
        refine lv_if_ne (tgt := 87) hx hb d_Model_stepped_79 (by decide) (fun c_10 => ?_) (fun c_10 => ?_)
        · skip
          refine lv_lload hx hb d_Model_stepped_87 (lv_at hl 1 rfl) ?_
          refine lv_iload hx hb d_Model_stepped_89 (lv_at hl 0 rfl) ?_
          refine lv_lshl hx hb d_Model_stepped_91 rfl ?_
          refine lv_lload hx hb d_Model_stepped_92 (lv_at hl 1 rfl) ?_
          refine lv_bipush (v := 64) hx hb d_Model_stepped_94 (by decide) ?_
          refine lv_iload hx hb d_Model_stepped_96 (lv_at hl 0 rfl) ?_
          refine lv_isub hx hb d_Model_stepped_98 ?_
          refine lv_lushr hx hb d_Model_stepped_99 rfl ?_
          refine lv_lor hx hb d_Model_stepped_100 ?_
          have hf : f_Model_stepped w x n0 y = (((x_ml w 7 n0.toNatClampNeg) <<< (((y &&& 63).toInt32).toInt64 &&& 63)) ||| (((x_ml w 7 n0.toNatClampNeg).toUInt64 >>> ((64 - ((y &&& 63).toInt32)).toInt64.toUInt64 &&& Int64.toUInt64 63)).toInt64)) := by
            simp only [f_Model_stepped, if_neg c_4, if_neg c_7, if_pos c_9, if_neg c_10]
          exact cd_lret hx hb hr hlocks hW hS d_Model_stepped_101 ⟨by rw [hf], rfl, rfl, rfl⟩ (Nat.le_of_ble_eq_true rfl) (Nat.le_of_ble_eq_true rfl)
        · skip
          refine lv_lload hx hb d_Model_stepped_82 (lv_at hl 1 rfl) ?_
          refine lv_goto (tgt := 101) hx hb d_Model_stepped_84 (by decide) ?_
          have hf : f_Model_stepped w x n0 y = (x_ml w 7 n0.toNatClampNeg) := by
            simp only [f_Model_stepped, if_neg c_4, if_neg c_7, if_pos c_9, if_pos c_10]
          exact cd_lret hx hb hr hlocks hW hS d_Model_stepped_101 ⟨by rw [hf], rfl, rfl, rfl⟩ (Nat.le_of_ble_eq_true rfl) (Nat.le_of_ble_eq_true rfl)
      · skip
        have c_11 : ¬ (x - x / 6 * 6) = 2 := fun q => h_8 (ez_1.trans q)
        by_cases h_12 : z_1 = 3
        · skip
          subst h_12
          have c_13 : (x - x / 6 * 6) = 3 := ez_1.symm
          refine lv_tableIn (tgt := 102) (off := 90) hx hb d_Model_stepped_12 (by decide) (by decide) (by decide) (by decide) ?_
          refine lv_lload hx hb d_Model_stepped_102 (lv_at hl 0 rfl) ?_
          refine lv_aload_n hx hb d_Model_stepped_104 rfl (lv_at hl 1 rfl) ?_
          refine cd_get (ci := 4) (C := R_Model) (T := F_Model) (N := 20) (v := .ref (m_ad w 10 7)) hx hb hA i_Model hown hK hW 9 0 rfl rfl rfl 8 (by decide) mw_211 rfl rfl d_Model_stepped_105 ?_
          refine lv_aload_n hx hb d_Model_stepped_108 rfl (lv_at hl 1 rfl) ?_
          refine cd_get (ci := 4) (C := R_Model) (T := F_Model) (N := 20) (v := .ref (m_ad w 10 9)) hx hb hA i_Model hown hK hW 9 0 rfl rfl rfl 10 (by decide) mw_200 rfl rfl d_Model_stepped_109 ?_
          refine lv_iload_n hx hb d_Model_stepped_112 rfl (lv_at hl 3 rfl) ?_
          refine cd_iald hx hb hK hW 10 9 (show (9 : Nat) < 11 from by decide) 0 rfl rfl hn0 d_Model_stepped_113 ?_
          refine cd_lald hx hb hK hW 10 7 (show (7 : Nat) < 11 from by decide) 1 rfl rfl (hof c_13) d_Model_stepped_114 ?_
          refine lv_ladd hx hb d_Model_stepped_115 ?_
          refine lv_lload_n hx hb d_Model_stepped_116 rfl (lv_at hl 4 rfl) ?_
          refine lv_ladd hx hb d_Model_stepped_117 ?_
          have hf : f_Model_stepped w x n0 y = (((x_ml w 7 n0.toNatClampNeg) + (x_ml w 7 ((x_mi w 9 n0.toNatClampNeg).toNatClampNeg))) + y) := by
            simp only [f_Model_stepped, if_neg c_4, if_neg c_7, if_neg c_11, if_pos c_13]
          exact cd_lret hx hb hr hlocks hW hS d_Model_stepped_118 ⟨by rw [hf], rfl, rfl, rfl⟩ (Nat.le_of_ble_eq_true rfl) (Nat.le_of_ble_eq_true rfl)
        · skip
          have c_14 : ¬ (x - x / 6 * 6) = 3 := fun q => h_12 (ez_1.trans q)
          by_cases h_15 : z_1 = 4
          · skip
            subst h_15
            have c_16 : (x - x / 6 * 6) = 4 := ez_1.symm
            refine lv_tableIn (tgt := 119) (off := 107) hx hb d_Model_stepped_12 (by decide) (by decide) (by decide) (by decide) ?_
            refine lv_lload hx hb d_Model_stepped_119 (lv_at hl 0 rfl) ?_
            refine lv_lload_n hx hb d_Model_stepped_121 rfl (lv_at hl 4 rfl) ?_
            refine lv_aload_n hx hb d_Model_stepped_122 rfl (lv_at hl 1 rfl) ?_
            refine cd_get (ci := 4) (C := R_Model) (T := F_Model) (N := 20) (v := .ref (m_ad w 10 4)) hx hb hA i_Model hown hK hW 9 0 rfl rfl rfl 5 (by decide) mw_181 rfl rfl d_Model_stepped_123 ?_
            refine lv_iload_n hx hb d_Model_stepped_126 rfl (lv_at hl 2 rfl) ?_
            refine cd_lald hx hb hK hW 10 4 (show (4 : Nat) < 11 from by decide) 1 rfl rfl hcl d_Model_stepped_127 ?_
            refine lv_lmul hx hb d_Model_stepped_128 ?_
            refine lv_ladd hx hb d_Model_stepped_129 ?_
            have hf : f_Model_stepped w x n0 y = ((x_ml w 7 n0.toNatClampNeg) + (y * (x_ml w 4 x.toNatClampNeg))) := by
              simp only [f_Model_stepped, if_neg c_4, if_neg c_7, if_neg c_11, if_neg c_14, if_pos c_16]
            exact cd_lret hx hb hr hlocks hW hS d_Model_stepped_130 ⟨by rw [hf], rfl, rfl, rfl⟩ (Nat.le_of_ble_eq_true rfl) (Nat.le_of_ble_eq_true rfl)
          · skip
            have c_17 : ¬ (x - x / 6 * 6) = 4 := fun q => h_15 (ez_1.trans q)
            refine lv_tableOut (tgt := 131) hx hb d_Model_stepped_12 (by have g0 := cd_ne 0 0 (by decide) h_2; have g1 := cd_ne 1 1 (by decide) h_5; have g2 := cd_ne 2 2 (by decide) h_8; have g3 := cd_ne 3 3 (by decide) h_12; have g4 := cd_ne 4 4 (by decide) h_15; omega) (by decide) ?_
            refine lv_lload_n hx hb d_Model_stepped_131 rfl (lv_at hl 4 rfl) ?_
            refine lv_lstore (lv' := [(7, .long y), (5, .long (x_ml w 7 n0.toNatClampNeg)), (0, .ref (m_ad w 9 0)), (1, .int x), (2, .int n0), (3, .long y)]) hx hb d_Model_stepped_132 hl (by decide) rfl (fun ls hl => ?_)
            refine lv_bipush (v := 65) hx hb d_Model_stepped_134 (by decide) ?_
            refine lv_istore (lv' := [(9, .int 65), (7, .long y), (5, .long (x_ml w 7 n0.toNatClampNeg)), (0, .ref (m_ad w 9 0)), (1, .int x), (2, .int n0), (3, .long y)]) hx hb d_Model_stepped_136 hl (by decide) rfl (fun ls hl => ?_)
            have loop : ∀ (d n : Nat), 20 = n + d → ∀ (ls : Array Slot) (H : Heap) (locs : List Loc), cm_Wo D dA b0 w H → va_S (cd_A b0) s.heap H locs → lv_has ls 10 [(9, .int (nI (65 + n))), (7, .long (f_sp_r w y n)), (5, .long (x_ml w 7 n0.toNatClampNeg)), (0, .ref (m_ad w 9 0)), (1, .int x), (2, .int n0), (3, .long y)] → W p l e { frames := 0, cells := 0, slots := 0, locals := 0 } s m ([.ref (m_ad w 9 0), .int x, .int n0, .long y] : List Value).toArray below meth c H locs 0 0 (MQ below (cd_Q D b0 (cm_R dA (some (.long (f_Model_stepped w x n0 y))) w)) ([.ref (m_ad w 9 0), .int x, .int n0, .long y] : List Value).toArray s 0 0 (cd_A b0)) (F0 m 138 ls []) := by
              intro d
              induction d with
              | zero =>
                intro n hn ls H locs hW hS hl
                have hn : 20 = n := hn
                refine lv_iload hx hb d_Model_stepped_138 (lv_at hl 0 rfl) ?_
                refine lv_bipush (v := 84) hx hb d_Model_stepped_140 (by decide) ?_
                refine lv_icmp_gt (tgt := 177) hx hb d_Model_stepped_142 (by decide) (fun c_18 => ?_) (fun c_18 => ?_)
                · skip
                  refine lv_lload hx hb d_Model_stepped_177 (lv_at hl 1 rfl) ?_
                  have hf : f_Model_stepped w x n0 y = (f_sp_r w y n) := by
                    simp only [f_Model_stepped, if_neg c_4, if_neg c_7, if_neg c_11, if_neg c_14, if_neg c_17]; rw [hn]
                  exact cd_lret hx hb hr hlocks hW hS d_Model_stepped_179 ⟨by rw [hf], rfl, rfl, rfl⟩ (Nat.le_of_ble_eq_true rfl) (Nat.le_of_ble_eq_true rfl)
                · skip
                  exact absurd (nI_lt (a := 84) (by omega) (by omega)) c_18
              | succ d ih =>
                intro n hn ls H locs hW hS hl
                refine lv_iload hx hb d_Model_stepped_138 (lv_at hl 0 rfl) ?_
                refine lv_bipush (v := 84) hx hb d_Model_stepped_140 (by decide) ?_
                refine lv_icmp_gt (tgt := 177) hx hb d_Model_stepped_142 (by decide) (fun c_19 => ?_) (fun c_19 => ?_)
                · skip
                  exact absurd c_19 (nI_nlt (a := 84) (by omega) (by omega))
                · skip
                  refine lv_lload hx hb d_Model_stepped_145 (lv_at hl 1 rfl) ?_
                  refine lv_aload_n hx hb d_Model_stepped_147 rfl (lv_at hl 3 rfl) ?_
                  refine cd_get (ci := 4) (C := R_Model) (T := F_Model) (N := 20) (v := .ref (m_ad w 10 6)) hx hb hA i_Model hown hK hW 9 0 rfl rfl rfl 7 (by decide) mw_191 rfl rfl d_Model_stepped_148 ?_
                  refine lv_iload hx hb d_Model_stepped_151 (lv_at hl 0 rfl) ?_
                  refine cd_zald hx hb hK hW 10 6 (show (6 : Nat) < 11 from by decide) 4 rfl rfl (vp_in_nI (show 65 + n < 384 by omega) (by decide)) d_Model_stepped_153 ?_
                  rw [nI_clamp (show 65 + n < 2 ^ 31 by omega)]
                  refine lv_if_eq (tgt := 167) hx hb d_Model_stepped_154 (by decide) (fun c_20 => ?_) (fun c_20 => ?_)
                  · skip
                    refine lv_lconst (v := 0) hx hb d_Model_stepped_167 (by decide) ?_
                    refine lv_ladd hx hb d_Model_stepped_168 ?_
                    refine lv_lstore (lv' := [(7, .long ((f_sp_r w y n) + 0)), (9, .int (nI (65 + n))), (5, .long (x_ml w 7 n0.toNatClampNeg)), (0, .ref (m_ad w 9 0)), (1, .int x), (2, .int n0), (3, .long y)]) hx hb d_Model_stepped_169 hl (by decide) rfl (fun ls hl => ?_)
                    refine lv_iinc (v := (nI (65 + (n + 1)))) (lv' := [(9, .int (nI (65 + (n + 1)))), (7, .long ((f_sp_r w y n) + 0)), (5, .long (x_ml w 7 n0.toNatClampNeg)), (0, .ref (m_ad w 9 0)), (1, .int x), (2, .int n0), (3, .long y)]) hx hb d_Model_stepped_171 hl (k := 1) rfl (by rw [show Int32.ofInt 1 = 1 by decide]; exact nI_1 _) (by decide) rfl (fun ls hl => ?_)
                    refine lv_goto (tgt := 138) hx hb d_Model_stepped_174 (by decide) ?_
                    exact ih (n + 1) (by omega) ls _ _ hW hS (lv_sub hl [0, 1, 2, 3, 4, 5, 6] (by simp only [lv_pick, List.filterMap_cons, List.filterMap_nil, List.getElem?_cons_zero, List.getElem?_cons_succ, f_sp_r, if_pos c_20]))
                  · skip
                    refine lv_aload_n hx hb d_Model_stepped_157 rfl (lv_at hl 3 rfl) ?_
                    refine cd_get (ci := 4) (C := R_Model) (T := F_Model) (N := 20) (v := .ref (m_ad w 10 7)) hx hb hA i_Model hown hK hW 9 0 rfl rfl rfl 8 (by decide) mw_211 rfl rfl d_Model_stepped_158 ?_
                    refine lv_iload hx hb d_Model_stepped_161 (lv_at hl 0 rfl) ?_
                    refine cd_lald hx hb hK hW 10 7 (show (7 : Nat) < 11 from by decide) 1 rfl rfl (vp_in_nI (show 65 + n < 384 by omega) (by decide)) d_Model_stepped_163 ?_
                    rw [nI_clamp (show 65 + n < 2 ^ 31 by omega)]
                    refine lv_goto (tgt := 168) hx hb d_Model_stepped_164 (by decide) ?_
                    refine lv_ladd hx hb d_Model_stepped_168 ?_
                    refine lv_lstore (lv' := [(7, .long ((f_sp_r w y n) + (x_ml w 7 (65 + n)))), (9, .int (nI (65 + n))), (5, .long (x_ml w 7 n0.toNatClampNeg)), (0, .ref (m_ad w 9 0)), (1, .int x), (2, .int n0), (3, .long y)]) hx hb d_Model_stepped_169 hl (by decide) rfl (fun ls hl => ?_)
                    refine lv_iinc (v := (nI (65 + (n + 1)))) (lv' := [(9, .int (nI (65 + (n + 1)))), (7, .long ((f_sp_r w y n) + (x_ml w 7 (65 + n)))), (5, .long (x_ml w 7 n0.toNatClampNeg)), (0, .ref (m_ad w 9 0)), (1, .int x), (2, .int n0), (3, .long y)]) hx hb d_Model_stepped_171 hl (k := 1) rfl (by rw [show Int32.ofInt 1 = 1 by decide]; exact nI_1 _) (by decide) rfl (fun ls hl => ?_)
                    refine lv_goto (tgt := 138) hx hb d_Model_stepped_174 (by decide) ?_
                    exact ih (n + 1) (by omega) ls _ _ hW hS (lv_sub hl [0, 1, 2, 3, 4, 5, 6] (by simp only [lv_pick, List.filterMap_cons, List.filterMap_nil, List.getElem?_cons_zero, List.getElem?_cons_succ, f_sp_r, if_neg c_20]))
            exact loop 20 0 (by omega) ls _ _ hW hS (lv_sub hl [0, 1, 2, 3, 4, 5, 6] rfl)

def f_Model_answerOf (w : cm_W) (x : Int32) (n : Int32) (y : Int64) : Int64 := if (x / 6) = 0 then ((x_ml w 7 n.toNatClampNeg) + (x_ml w 4 x.toNatClampNeg)) else if (x / 6) = 1 then (x_ml w 7 n.toNatClampNeg) else if (x / 6) = 2 then (((x_mi w 8 n.toNatClampNeg) + 1).toInt64) else if (x_ml w 7 y.toInt32.toNatClampNeg) ≤ (x_ml w 7 n.toNatClampNeg) then (if (x_ml w 7 n.toNatClampNeg) = (x_ml w 7 y.toInt32.toNatClampNeg) then 1 else 2) else 0
set_option maxHeartbeats 4000000 in
set_option maxRecDepth 100000 in
theorem c_Model_answerOf (l : Launch) (D : va_G) (dA : Nat → ClassId) (b0 : Nat) (w : cm_W) (x : Int32) (n : Int32) (y : Int64) (hcl : vp_in x 24) (hn : vp_in n 384) (hy : ¬ x / 6 = 0 → ¬ x / 6 = 1 → ¬ x / 6 = 2 → vp_in y.toInt32 384) : cd_Ct l D (cx_tys dA) b0 y_Model_answerOf (.code y_Model_answerOf b_Model_answerOf 7 (some .long) :: cd_WA) { frames := 0, cells := 0, slots := 0, locals := 0 } [.ref (m_ad w 9 0), .int x, .int n, .long y] (cm_dm w) (m_ad w) (cm_ce dA w) (cm_R dA (some (.long (f_Model_answerOf w x n y))) w) 0 0 := by
  refine cd_Ct.of b_Model_answerOf 7 (some .long) (by decide) rfl ?_
  intro p e s m below meth c hx hb hr hml hown hlocks hnm hA hE hb0 hW hS ls hl
  have hK := hE.1
  have hl : lv_has ls 7 [(0, .ref (m_ad w 9 0)), (1, .int x), (2, .int n), (3, .long y)] := hl
  refine lv_iload_n hx hb d_Model_answerOf_0 rfl (lv_at hl 1 rfl) ?_
  refine lv_bipush (v := 6) hx hb d_Model_answerOf_1 (by decide) ?_
  refine lv_idiv hx hb d_Model_answerOf_3 (by decide) ?_
  refine lv_topi (fun z_1 ez_1 => ?_)
  by_cases h_2 : z_1 = 0
  · skip
    subst h_2
    have c_3 : (x / 6) = 0 := ez_1.symm
    refine lv_tableIn (tgt := 32) (off := 28) hx hb d_Model_answerOf_4 (by decide) (by decide) (by decide) (by decide) ?_
    refine lv_aload_n hx hb d_Model_answerOf_32 rfl (lv_at hl 0 rfl) ?_
    refine cd_get (ci := 4) (C := R_Model) (T := F_Model) (N := 20) (v := .ref (m_ad w 10 7)) hx hb hA i_Model hown hK hW 9 0 rfl rfl rfl 8 (by decide) mw_211 rfl rfl d_Model_answerOf_33 ?_
    refine lv_iload_n hx hb d_Model_answerOf_36 rfl (lv_at hl 2 rfl) ?_
    refine cd_lald hx hb hK hW 10 7 (show (7 : Nat) < 11 from by decide) 1 rfl rfl hn d_Model_answerOf_37 ?_
    refine lv_aload_n hx hb d_Model_answerOf_38 rfl (lv_at hl 0 rfl) ?_
    refine cd_get (ci := 4) (C := R_Model) (T := F_Model) (N := 20) (v := .ref (m_ad w 10 4)) hx hb hA i_Model hown hK hW 9 0 rfl rfl rfl 5 (by decide) mw_181 rfl rfl d_Model_answerOf_39 ?_
    refine lv_iload_n hx hb d_Model_answerOf_42 rfl (lv_at hl 1 rfl) ?_
    refine cd_lald hx hb hK hW 10 4 (show (4 : Nat) < 11 from by decide) 1 rfl rfl hcl d_Model_answerOf_43 ?_
    refine lv_ladd hx hb d_Model_answerOf_44 ?_
    have hf : f_Model_answerOf w x n y = ((x_ml w 7 n.toNatClampNeg) + (x_ml w 4 x.toNatClampNeg)) := by
      simp only [f_Model_answerOf, if_pos c_3]
    exact cd_lret hx hb hr hlocks hW hS d_Model_answerOf_45 ⟨by rw [hf], rfl, rfl, rfl⟩ (Nat.le_of_ble_eq_true rfl) (Nat.le_of_ble_eq_true rfl)
  · skip
    have c_4 : ¬ (x / 6) = 0 := fun q => h_2 (ez_1.trans q)
    by_cases h_5 : z_1 = 1
    · skip
      subst h_5
      have c_6 : (x / 6) = 1 := ez_1.symm
      refine lv_tableIn (tgt := 46) (off := 42) hx hb d_Model_answerOf_4 (by decide) (by decide) (by decide) (by decide) ?_
      refine lv_aload_n hx hb d_Model_answerOf_46 rfl (lv_at hl 0 rfl) ?_
      refine cd_get (ci := 4) (C := R_Model) (T := F_Model) (N := 20) (v := .ref (m_ad w 10 7)) hx hb hA i_Model hown hK hW 9 0 rfl rfl rfl 8 (by decide) mw_211 rfl rfl d_Model_answerOf_47 ?_
      refine lv_iload_n hx hb d_Model_answerOf_50 rfl (lv_at hl 2 rfl) ?_
      refine cd_lald hx hb hK hW 10 7 (show (7 : Nat) < 11 from by decide) 1 rfl rfl hn d_Model_answerOf_51 ?_
      have hf : f_Model_answerOf w x n y = (x_ml w 7 n.toNatClampNeg) := by
        simp only [f_Model_answerOf, if_neg c_4, if_pos c_6]
      exact cd_lret hx hb hr hlocks hW hS d_Model_answerOf_52 ⟨by rw [hf], rfl, rfl, rfl⟩ (Nat.le_of_ble_eq_true rfl) (Nat.le_of_ble_eq_true rfl)
    · skip
      have c_7 : ¬ (x / 6) = 1 := fun q => h_5 (ez_1.trans q)
      by_cases h_8 : z_1 = 2
      · skip
        subst h_8
        have c_9 : (x / 6) = 2 := ez_1.symm
        refine lv_tableIn (tgt := 53) (off := 49) hx hb d_Model_answerOf_4 (by decide) (by decide) (by decide) (by decide) ?_
        refine lv_aload_n hx hb d_Model_answerOf_53 rfl (lv_at hl 0 rfl) ?_
        refine cd_get (ci := 4) (C := R_Model) (T := F_Model) (N := 20) (v := .ref (m_ad w 10 8)) hx hb hA i_Model hown hK hW 9 0 rfl rfl rfl 9 (by decide) mw_206 rfl rfl d_Model_answerOf_54 ?_
        refine lv_iload_n hx hb d_Model_answerOf_57 rfl (lv_at hl 2 rfl) ?_
        refine cd_iald hx hb hK hW 10 8 (show (8 : Nat) < 11 from by decide) 0 rfl rfl hn d_Model_answerOf_58 ?_
        refine lv_iconst (v := 1) hx hb d_Model_answerOf_59 (by decide) ?_
        refine lv_iadd hx hb d_Model_answerOf_60 ?_
        refine lv_i2l hx hb d_Model_answerOf_61 rfl ?_
        have hf : f_Model_answerOf w x n y = ((x_mi w 8 n.toNatClampNeg) + 1).toInt64 := by
          simp only [f_Model_answerOf, if_neg c_4, if_neg c_7, if_pos c_9]
        exact cd_lret hx hb hr hlocks hW hS d_Model_answerOf_62 ⟨by rw [hf], rfl, rfl, rfl⟩ (Nat.le_of_ble_eq_true rfl) (Nat.le_of_ble_eq_true rfl)
      · skip
        have c_10 : ¬ (x / 6) = 2 := fun q => h_8 (ez_1.trans q)
        refine lv_tableOut (tgt := 63) hx hb d_Model_answerOf_4 (by have g0 := cd_ne 0 0 (by decide) h_2; have g1 := cd_ne 1 1 (by decide) h_5; have g2 := cd_ne 2 2 (by decide) h_8; omega) (by decide) ?_
        refine lv_aload_n hx hb d_Model_answerOf_63 rfl (lv_at hl 0 rfl) ?_
        refine cd_get (ci := 4) (C := R_Model) (T := F_Model) (N := 20) (v := .ref (m_ad w 10 7)) hx hb hA i_Model hown hK hW 9 0 rfl rfl rfl 8 (by decide) mw_211 rfl rfl d_Model_answerOf_64 ?_
        refine lv_lload_n hx hb d_Model_answerOf_67 rfl (lv_at hl 3 rfl) ?_
        refine lv_l2i hx hb d_Model_answerOf_68 rfl ?_
        refine cd_lald hx hb hK hW 10 7 (show (7 : Nat) < 11 from by decide) 1 rfl rfl (hy ‹_› ‹_› ‹_›) d_Model_answerOf_69 ?_
        refine lv_lstore (lv' := [(5, .long (x_ml w 7 y.toInt32.toNatClampNeg)), (0, .ref (m_ad w 9 0)), (1, .int x), (2, .int n), (3, .long y)]) hx hb d_Model_answerOf_70 hl (by decide) rfl (fun ls hl => ?_)
        refine lv_aload_n hx hb d_Model_answerOf_72 rfl (lv_at hl 1 rfl) ?_
        refine cd_get (ci := 4) (C := R_Model) (T := F_Model) (N := 20) (v := .ref (m_ad w 10 7)) hx hb hA i_Model hown hK hW 9 0 rfl rfl rfl 8 (by decide) mw_211 rfl rfl d_Model_answerOf_73 ?_
        refine lv_iload_n hx hb d_Model_answerOf_76 rfl (lv_at hl 3 rfl) ?_
        refine cd_lald hx hb hK hW 10 7 (show (7 : Nat) < 11 from by decide) 1 rfl rfl hn d_Model_answerOf_77 ?_
        refine lv_lload hx hb d_Model_answerOf_78 (lv_at hl 0 rfl) ?_
        refine cd_lc_ge (tgt := 88) hx hb d_Model_answerOf_80 d_Model_answerOf_81 (by decide) (fun c_11 => ?_) (fun c_11 => ?_)
        · skip
          refine lv_aload_n hx hb d_Model_answerOf_88 rfl (lv_at hl 1 rfl) ?_
          refine cd_get (ci := 4) (C := R_Model) (T := F_Model) (N := 20) (v := .ref (m_ad w 10 7)) hx hb hA i_Model hown hK hW 9 0 rfl rfl rfl 8 (by decide) mw_211 rfl rfl d_Model_answerOf_89 ?_
          refine lv_iload_n hx hb d_Model_answerOf_92 rfl (lv_at hl 3 rfl) ?_
          refine cd_lald hx hb hK hW 10 7 (show (7 : Nat) < 11 from by decide) 1 rfl rfl hn d_Model_answerOf_93 ?_
          refine lv_lload hx hb d_Model_answerOf_94 (lv_at hl 0 rfl) ?_
          refine cd_lc_ne (tgt := 104) hx hb d_Model_answerOf_96 d_Model_answerOf_97 (by decide) (fun c_12 => ?_) (fun c_12 => ?_)
          · skip
            refine lv_ldc2 (v := 2) hx hb hown (hA _ mw_213) d_Model_answerOf_104 ?_
            have hf : f_Model_answerOf w x n y = 2 := by
              simp only [f_Model_answerOf, if_neg c_4, if_neg c_7, if_neg c_10, if_pos c_11, if_neg c_12]
            exact cd_lret hx hb hr hlocks hW hS d_Model_answerOf_107 ⟨by rw [hf], rfl, rfl, rfl⟩ (Nat.le_of_ble_eq_true rfl) (Nat.le_of_ble_eq_true rfl)
          · skip
            refine lv_lconst (v := 1) hx hb d_Model_answerOf_100 (by decide) ?_
            refine lv_goto (tgt := 107) hx hb d_Model_answerOf_101 (by decide) ?_
            have hf : f_Model_answerOf w x n y = 1 := by
              simp only [f_Model_answerOf, if_neg c_4, if_neg c_7, if_neg c_10, if_pos c_11, if_pos c_12]
            exact cd_lret hx hb hr hlocks hW hS d_Model_answerOf_107 ⟨by rw [hf], rfl, rfl, rfl⟩ (Nat.le_of_ble_eq_true rfl) (Nat.le_of_ble_eq_true rfl)
        · skip
          refine lv_lconst (v := 0) hx hb d_Model_answerOf_84 (by decide) ?_
          refine lv_goto (tgt := 107) hx hb d_Model_answerOf_85 (by decide) ?_
          have hf : f_Model_answerOf w x n y = 0 := by
            simp only [f_Model_answerOf, if_neg c_4, if_neg c_7, if_neg c_10, if_neg c_11]
          exact cd_lret hx hb hr hlocks hW hS d_Model_answerOf_107 ⟨by rw [hf], rfl, rfl, rfl⟩ (Nat.le_of_ble_eq_true rfl) (Nat.le_of_ble_eq_true rfl)

def f_Model_collect (w : cm_W) (x : Int32) (y : Int64) : Int32 × cm_W := if x < 0 then ((f_Model_refuse (u_mc w 0 0) (-1)).1, (f_Model_refuse (u_mc w 0 0) (-1)).2) else if x ≤ 2 then (if y < 0 then ((f_Model_refuse (u_mc w 0 0) (-2)).1, (f_Model_refuse (u_mc w 0 0) (-2)).2) else if x = 0 then (if y ≤ 127 then (if (x_mi w 3 x.toNatClampNeg) = 200 then ((f_Model_refuse (u_mc w 0 0) (-4)).1, (f_Model_refuse (u_mc w 0 0) (-4)).2) else (((x_mi w 3 x.toNatClampNeg) + 1), (u_mc (u_mi (u_mi (u_mc w 0 0) 0 ((x_mi w 3 x.toNatClampNeg).toNatClampNeg) y.toInt32) 3 x.toNatClampNeg ((x_mi w 3 x.toNatClampNeg) + 1)) 8 ((x_mc w 8) + 1)))) else ((f_Model_refuse (u_mc w 0 0) (-2)).1, (f_Model_refuse (u_mc w 0 0) (-2)).2)) else if x = 1 then (if y ≤ 1 then (if (x_mi w 3 x.toNatClampNeg) = 200 then ((f_Model_refuse (u_mc w 0 0) (-4)).1, (f_Model_refuse (u_mc w 0 0) (-4)).2) else (((x_mi w 3 x.toNatClampNeg) + 1), (u_mc (u_mi (u_mi (u_mc w 0 0) 1 ((x_mi w 3 x.toNatClampNeg).toNatClampNeg) y.toInt32) 3 x.toNatClampNeg ((x_mi w 3 x.toNatClampNeg) + 1)) 8 ((x_mc w 8) + 1)))) else ((f_Model_refuse (u_mc w 0 0) (-2)).1, (f_Model_refuse (u_mc w 0 0) (-2)).2)) else if y ≤ 255 then (if (x_mi w 3 x.toNatClampNeg) = 200 then ((f_Model_refuse (u_mc w 0 0) (-4)).1, (f_Model_refuse (u_mc w 0 0) (-4)).2) else (((x_mi w 3 x.toNatClampNeg) + 1), (u_mc (u_mi (u_mi (u_mc w 0 0) 2 ((x_mi w 3 x.toNatClampNeg).toNatClampNeg) y.toInt32) 3 x.toNatClampNeg ((x_mi w 3 x.toNatClampNeg) + 1)) 8 ((x_mc w 8) + 1)))) else ((f_Model_refuse (u_mc w 0 0) (-2)).1, (f_Model_refuse (u_mc w 0 0) (-2)).2)) else ((f_Model_refuse (u_mc w 0 0) (-1)).1, (f_Model_refuse (u_mc w 0 0) (-1)).2)
set_option maxHeartbeats 4000000 in
set_option maxRecDepth 100000 in
theorem c_Model_collect (l : Launch) (D : va_G) (dA : Nat → ClassId) (b0 : Nat) (w : cm_W) (x : Int32) (y : Int64) (hco : ∀ t, t < 3 → ∃ c, c ≤ 200 ∧ x_mi w 3 t = nI c) : cd_Ct l D (cx_tys dA) b0 y_Model_collect (.code y_Model_collect b_Model_collect 5 (some .int) :: cd_WA) { frames := 1, cells := 0, slots := 0, locals := 21 } [.ref (m_ad w 9 0), .int x, .long y] (cm_dm w) (m_ad w) (cm_ce dA w) (cm_R dA (some (.int (f_Model_collect w x y).1)) (f_Model_collect w x y).2) 0 0 := by
  refine cd_Ct.of b_Model_collect 5 (some .int) (by decide) rfl ?_
  intro p e s m below meth c hx hb hr hml hown hlocks hnm hA hE hb0 hW hS ls hl
  have hK := hE.1
  have hl : lv_has ls 5 [(0, .ref (m_ad w 9 0)), (1, .int x), (2, .long y)] := hl
  refine lv_aload_n hx hb d_Model_collect_0 rfl (lv_at hl 0 rfl) ?_
  refine lv_iconst (v := 0) hx hb d_Model_collect_1 (by decide) ?_
  refine cd_put (ci := 4) (C := R_Model) (T := F_Model) (N := 20) (v := .int 0) hx hb hA i_Model t_Model t_Model_ok n_Model hown hK hW hS 9 0 rfl rfl rfl 0 (by decide) mw_172 rfl rfl rfl rfl (Nat.le_of_ble_eq_true rfl) d_Model_collect_2 (cm_ce dA (u_mc w 0 0)) rfl (kp_mc dA w 0 0) (fun H locs hW hS => ?_)
  have hW : cm_Wo D dA b0 (u_mc w 0 0) H := to_mc hW
  refine lv_iload_n hx hb d_Model_collect_5 rfl (lv_at hl 1 rfl) ?_
  refine lv_if_lt (tgt := 14) hx hb d_Model_collect_6 (by decide) (fun c_1 => ?_) (fun c_1 => ?_)
  · skip
    refine lv_aload_n hx hb d_Model_collect_14 rfl (lv_at hl 0 rfl) ?_
    refine lv_iconst (v := (-1)) hx hb d_Model_collect_15 (by decide) ?_
    refine cm_cV (w0 := (f_Model_refuse (u_mc w 0 0) (-1)).2) (x0 := .int ((f_Model_refuse (u_mc w 0 0) (-1)).1)) (rest := []) (n := 1) ⟨hx, hb, hml, hown, hA⟩ (cd_GA mw_173) hE hb0 hW hS 9 0 rfl rfl rfl (c_Model_refuse l D dA b0 (u_mc w 0 0) (-1)) mw_177 mw_175 mw_176 mw_174 (by decide +kernel) rfl rfl ⟨by decide, by decide⟩ rfl hl.1 rfl (Nat.le_of_ble_eq_true rfl) d_Model_collect_16 ⟨by decide, by decide⟩ (fun H locs hW hS => ?_)
    have hf : f_Model_collect w x y = ((f_Model_refuse (u_mc w 0 0) (-1)).1, (f_Model_refuse (u_mc w 0 0) (-1)).2) := by
      simp only [f_Model_collect, if_pos c_1]
    exact cd_iret hx hb hr hlocks hW hS d_Model_collect_19 ⟨by rw [hf], by rw [hf], by rw [hf], by rw [hf]⟩ (Nat.le_of_ble_eq_true rfl) (Nat.le_of_ble_eq_true rfl)
  · skip
    refine lv_iload_n hx hb d_Model_collect_9 rfl (lv_at hl 1 rfl) ?_
    refine lv_iconst (v := 2) hx hb d_Model_collect_10 (by decide) ?_
    refine lv_icmp_le (tgt := 20) hx hb d_Model_collect_11 (by decide) (fun c_2 => ?_) (fun c_2 => ?_)
    · skip
      refine lv_lload_n hx hb d_Model_collect_20 rfl (lv_at hl 2 rfl) ?_
      refine lv_lconst (v := 0) hx hb d_Model_collect_21 (by decide) ?_
      refine cd_lc_lt (tgt := 53) hx hb d_Model_collect_22 d_Model_collect_23 (by decide) (fun c_3 => ?_) (fun c_3 => ?_)
      · skip
        refine lv_aload_n hx hb d_Model_collect_53 rfl (lv_at hl 0 rfl) ?_
        refine lv_bipush (v := (-2)) hx hb d_Model_collect_54 (by decide) ?_
        refine cm_cV (w0 := (f_Model_refuse (u_mc w 0 0) (-2)).2) (x0 := .int ((f_Model_refuse (u_mc w 0 0) (-2)).1)) (rest := []) (n := 1) ⟨hx, hb, hml, hown, hA⟩ (cd_GA mw_173) hE hb0 hW hS 9 0 rfl rfl rfl (c_Model_refuse l D dA b0 (u_mc w 0 0) (-2)) mw_177 mw_175 mw_176 mw_174 (by decide +kernel) rfl rfl ⟨by decide, by decide⟩ rfl hl.1 rfl (Nat.le_of_ble_eq_true rfl) d_Model_collect_56 ⟨by decide, by decide⟩ (fun H locs hW hS => ?_)
        have hf : f_Model_collect w x y = ((f_Model_refuse (u_mc w 0 0) (-2)).1, (f_Model_refuse (u_mc w 0 0) (-2)).2) := by
          simp only [f_Model_collect, if_neg c_1, if_pos c_2, if_pos c_3]
        exact cd_iret hx hb hr hlocks hW hS d_Model_collect_59 ⟨by rw [hf], by rw [hf], by rw [hf], by rw [hf]⟩ (Nat.le_of_ble_eq_true rfl) (Nat.le_of_ble_eq_true rfl)
      · skip
        refine lv_lload_n hx hb d_Model_collect_26 rfl (lv_at hl 2 rfl) ?_
        refine lv_iload_n hx hb d_Model_collect_27 rfl (lv_at hl 1 rfl) ?_
        refine lv_if_ne (tgt := 37) hx hb d_Model_collect_28 (by decide) (fun c_4 => ?_) (fun c_4 => ?_)
        · skip
          refine lv_iload_n hx hb d_Model_collect_37 rfl (lv_at hl 1 rfl) ?_
          refine lv_iconst (v := 1) hx hb d_Model_collect_38 (by decide) ?_
          refine lv_icmp_ne (tgt := 46) hx hb d_Model_collect_39 (by decide) (fun c_5 => ?_) (fun c_5 => ?_)
          · skip
            refine lv_ldc2 (v := 255) hx hb hown (hA _ mw_214) d_Model_collect_46 ?_
            refine cd_lc_le (tgt := 60) hx hb d_Model_collect_49 d_Model_collect_50 (by decide) (fun c_6 => ?_) (fun c_6 => ?_)
            · skip
              refine lv_aload_n hx hb d_Model_collect_60 rfl (lv_at hl 0 rfl) ?_
              refine cd_get (ci := 4) (C := R_Model) (T := F_Model) (N := 20) (v := .ref (m_ad w 10 3)) hx hb hA i_Model hown hK hW 9 0 rfl rfl rfl 4 (by decide) mw_190 rfl rfl d_Model_collect_61 ?_
              refine lv_iload_n hx hb d_Model_collect_64 rfl (lv_at hl 1 rfl) ?_
              refine cd_iald hx hb hK hW 10 3 (show (3 : Nat) < 11 from by decide) 0 rfl rfl (cm_in2 c_1 c_2) d_Model_collect_65 ?_
              refine lv_istore (lv' := [(4, .int (x_mi w 3 x.toNatClampNeg)), (0, .ref (m_ad w 9 0)), (1, .int x), (2, .long y)]) hx hb d_Model_collect_66 hl (by decide) rfl (fun ls hl => ?_)
              refine lv_iload hx hb d_Model_collect_68 (lv_at hl 0 rfl) ?_
              refine lv_sipush (v := 200) hx hb d_Model_collect_70 (by decide) ?_
              refine lv_icmp_ne (tgt := 83) hx hb d_Model_collect_73 (by decide) (fun c_7 => ?_) (fun c_7 => ?_)
              · skip
                refine lv_iload_n hx hb d_Model_collect_83 rfl (lv_at hl 2 rfl) ?_
                refine lv_if_ne (tgt := 99) hx hb d_Model_collect_84 (by decide) (fun _ => ?_) (fun c_8 => absurd c_8 c_4)
                refine lv_iload_n hx hb d_Model_collect_99 rfl (lv_at hl 2 rfl) ?_
                refine lv_iconst (v := 1) hx hb d_Model_collect_100 (by decide) ?_
                refine lv_icmp_ne (tgt := 116) hx hb d_Model_collect_101 (by decide) (fun _ => ?_) (fun c_9 => absurd c_9 c_5)
                refine lv_aload_n hx hb d_Model_collect_116 rfl (lv_at hl 1 rfl) ?_
                refine cd_get (ci := 4) (C := R_Model) (T := F_Model) (N := 20) (v := .ref (m_ad w 10 2)) hx hb hA i_Model hown hK hW 9 0 rfl rfl rfl 3 (by decide) mw_196 rfl rfl d_Model_collect_117 ?_
                refine lv_iload hx hb d_Model_collect_120 (lv_at hl 0 rfl) ?_
                refine lv_lload_n hx hb d_Model_collect_122 rfl (lv_at hl 3 rfl) ?_
                refine lv_l2i hx hb d_Model_collect_123 rfl ?_
                refine cd_iast hx hb hK hW hS 10 2 (show (2 : Nat) < 11 from by decide) 0 rfl rfl (cm_co hco (cm_in2 c_1 c_2) c_7) d_Model_collect_124 (cm_ce dA (u_mi (u_mc w 0 0) 2 ((x_mi w 3 x.toNatClampNeg).toNatClampNeg) y.toInt32)) rfl (kp_mi dA (u_mc w 0 0) 2 ((x_mi w 3 x.toNatClampNeg).toNatClampNeg) y.toInt32) (fun H locs hW hS => ?_)
                have hW : cm_Wo D dA b0 (u_mi (u_mc w 0 0) 2 ((x_mi w 3 x.toNatClampNeg).toNatClampNeg) y.toInt32) H := to_mi hW
                refine lv_aload_n hx hb d_Model_collect_125 rfl (lv_at hl 1 rfl) ?_
                refine cd_get (ci := 4) (C := R_Model) (T := F_Model) (N := 20) (v := .ref (m_ad w 10 3)) hx hb hA i_Model hown hK hW 9 0 rfl rfl rfl 4 (by decide) mw_190 rfl rfl d_Model_collect_126 ?_
                refine lv_iload_n hx hb d_Model_collect_129 rfl (lv_at hl 2 rfl) ?_
                refine lv_dup2_11 hx hb d_Model_collect_130 rfl rfl ?_
                refine cd_iald hx hb hK hW 10 3 (show (3 : Nat) < 11 from by decide) 0 rfl rfl (cm_in2 c_1 c_2) d_Model_collect_131 ?_
                refine lv_iconst (v := 1) hx hb d_Model_collect_132 (by decide) ?_
                refine lv_iadd hx hb d_Model_collect_133 ?_
                refine cd_iast hx hb hK hW hS 10 3 (show (3 : Nat) < 11 from by decide) 0 rfl rfl (cm_in2 c_1 c_2) d_Model_collect_134 (cm_ce dA (u_mi (u_mi (u_mc w 0 0) 2 ((x_mi w 3 x.toNatClampNeg).toNatClampNeg) y.toInt32) 3 x.toNatClampNeg ((x_mi w 3 x.toNatClampNeg) + 1))) rfl (kp_mi dA (u_mi (u_mc w 0 0) 2 ((x_mi w 3 x.toNatClampNeg).toNatClampNeg) y.toInt32) 3 x.toNatClampNeg ((x_mi w 3 x.toNatClampNeg) + 1)) (fun H locs hW hS => ?_)
                have hW : cm_Wo D dA b0 (u_mi (u_mi (u_mc w 0 0) 2 ((x_mi w 3 x.toNatClampNeg).toNatClampNeg) y.toInt32) 3 x.toNatClampNeg ((x_mi w 3 x.toNatClampNeg) + 1)) H := to_mi hW
                refine lv_aload_n hx hb d_Model_collect_135 rfl (lv_at hl 1 rfl) ?_
                refine lv_dup hx hb d_Model_collect_136 rfl ?_
                refine cd_get (ci := 4) (C := R_Model) (T := F_Model) (N := 20) (v := .int (x_mc w 8)) hx hb hA i_Model hown hK hW 9 0 rfl rfl rfl 19 (by decide) mw_182 rfl rfl d_Model_collect_137 ?_
                refine lv_iconst (v := 1) hx hb d_Model_collect_140 (by decide) ?_
                refine lv_iadd hx hb d_Model_collect_141 ?_
                refine cd_put (ci := 4) (C := R_Model) (T := F_Model) (N := 20) (v := .int ((x_mc w 8) + 1)) hx hb hA i_Model t_Model t_Model_ok n_Model hown hK hW hS 9 0 rfl rfl rfl 19 (by decide) mw_182 rfl rfl rfl rfl (Nat.le_of_ble_eq_true rfl) d_Model_collect_142 (cm_ce dA (u_mc (u_mi (u_mi (u_mc w 0 0) 2 ((x_mi w 3 x.toNatClampNeg).toNatClampNeg) y.toInt32) 3 x.toNatClampNeg ((x_mi w 3 x.toNatClampNeg) + 1)) 8 ((x_mc w 8) + 1))) rfl (kp_mc dA (u_mi (u_mi (u_mc w 0 0) 2 ((x_mi w 3 x.toNatClampNeg).toNatClampNeg) y.toInt32) 3 x.toNatClampNeg ((x_mi w 3 x.toNatClampNeg) + 1)) 8 ((x_mc w 8) + 1)) (fun H locs hW hS => ?_)
                have hW : cm_Wo D dA b0 (u_mc (u_mi (u_mi (u_mc w 0 0) 2 ((x_mi w 3 x.toNatClampNeg).toNatClampNeg) y.toInt32) 3 x.toNatClampNeg ((x_mi w 3 x.toNatClampNeg) + 1)) 8 ((x_mc w 8) + 1)) H := to_mc hW
                refine lv_iload hx hb d_Model_collect_145 (lv_at hl 0 rfl) ?_
                refine lv_iconst (v := 1) hx hb d_Model_collect_147 (by decide) ?_
                refine lv_iadd hx hb d_Model_collect_148 ?_
                have hf : f_Model_collect w x y = (((x_mi w 3 x.toNatClampNeg) + 1), (u_mc (u_mi (u_mi (u_mc w 0 0) 2 ((x_mi w 3 x.toNatClampNeg).toNatClampNeg) y.toInt32) 3 x.toNatClampNeg ((x_mi w 3 x.toNatClampNeg) + 1)) 8 ((x_mc w 8) + 1))) := by
                  simp only [f_Model_collect, if_neg c_1, if_pos c_2, if_neg c_3, if_neg c_4, if_neg c_5, if_pos c_6, if_neg c_7]
                exact cd_iret hx hb hr hlocks hW hS d_Model_collect_149 ⟨by rw [hf], by rw [hf], by rw [hf], by rw [hf]⟩ (Nat.le_of_ble_eq_true rfl) (Nat.le_of_ble_eq_true rfl)
              · skip
                refine lv_aload_n hx hb d_Model_collect_76 rfl (lv_at hl 1 rfl) ?_
                refine lv_bipush (v := (-4)) hx hb d_Model_collect_77 (by decide) ?_
                refine cm_cV (w0 := (f_Model_refuse (u_mc w 0 0) (-4)).2) (x0 := .int ((f_Model_refuse (u_mc w 0 0) (-4)).1)) (rest := []) (n := 1) ⟨hx, hb, hml, hown, hA⟩ (cd_GA mw_173) hE hb0 hW hS 9 0 rfl rfl rfl (c_Model_refuse l D dA b0 (u_mc w 0 0) (-4)) mw_177 mw_175 mw_176 mw_174 (by decide +kernel) rfl rfl ⟨by decide, by decide⟩ rfl hl.1 rfl (Nat.le_of_ble_eq_true rfl) d_Model_collect_79 ⟨by decide, by decide⟩ (fun H locs hW hS => ?_)
                have hf : f_Model_collect w x y = ((f_Model_refuse (u_mc w 0 0) (-4)).1, (f_Model_refuse (u_mc w 0 0) (-4)).2) := by
                  simp only [f_Model_collect, if_neg c_1, if_pos c_2, if_neg c_3, if_neg c_4, if_neg c_5, if_pos c_6, if_pos c_7]
                exact cd_iret hx hb hr hlocks hW hS d_Model_collect_82 ⟨by rw [hf], by rw [hf], by rw [hf], by rw [hf]⟩ (Nat.le_of_ble_eq_true rfl) (Nat.le_of_ble_eq_true rfl)
            · skip
              refine lv_aload_n hx hb d_Model_collect_53 rfl (lv_at hl 0 rfl) ?_
              refine lv_bipush (v := (-2)) hx hb d_Model_collect_54 (by decide) ?_
              refine cm_cV (w0 := (f_Model_refuse (u_mc w 0 0) (-2)).2) (x0 := .int ((f_Model_refuse (u_mc w 0 0) (-2)).1)) (rest := []) (n := 1) ⟨hx, hb, hml, hown, hA⟩ (cd_GA mw_173) hE hb0 hW hS 9 0 rfl rfl rfl (c_Model_refuse l D dA b0 (u_mc w 0 0) (-2)) mw_177 mw_175 mw_176 mw_174 (by decide +kernel) rfl rfl ⟨by decide, by decide⟩ rfl hl.1 rfl (Nat.le_of_ble_eq_true rfl) d_Model_collect_56 ⟨by decide, by decide⟩ (fun H locs hW hS => ?_)
              have hf : f_Model_collect w x y = ((f_Model_refuse (u_mc w 0 0) (-2)).1, (f_Model_refuse (u_mc w 0 0) (-2)).2) := by
                simp only [f_Model_collect, if_neg c_1, if_pos c_2, if_neg c_3, if_neg c_4, if_neg c_5, if_neg c_6]
              exact cd_iret hx hb hr hlocks hW hS d_Model_collect_59 ⟨by rw [hf], by rw [hf], by rw [hf], by rw [hf]⟩ (Nat.le_of_ble_eq_true rfl) (Nat.le_of_ble_eq_true rfl)
          · skip
            refine lv_lconst (v := 1) hx hb d_Model_collect_42 (by decide) ?_
            refine lv_goto (tgt := 49) hx hb d_Model_collect_43 (by decide) ?_
            refine cd_lc_le (tgt := 60) hx hb d_Model_collect_49 d_Model_collect_50 (by decide) (fun c_10 => ?_) (fun c_10 => ?_)
            · skip
              refine lv_aload_n hx hb d_Model_collect_60 rfl (lv_at hl 0 rfl) ?_
              refine cd_get (ci := 4) (C := R_Model) (T := F_Model) (N := 20) (v := .ref (m_ad w 10 3)) hx hb hA i_Model hown hK hW 9 0 rfl rfl rfl 4 (by decide) mw_190 rfl rfl d_Model_collect_61 ?_
              refine lv_iload_n hx hb d_Model_collect_64 rfl (lv_at hl 1 rfl) ?_
              refine cd_iald hx hb hK hW 10 3 (show (3 : Nat) < 11 from by decide) 0 rfl rfl (cm_in2 c_1 c_2) d_Model_collect_65 ?_
              refine lv_istore (lv' := [(4, .int (x_mi w 3 x.toNatClampNeg)), (0, .ref (m_ad w 9 0)), (1, .int x), (2, .long y)]) hx hb d_Model_collect_66 hl (by decide) rfl (fun ls hl => ?_)
              refine lv_iload hx hb d_Model_collect_68 (lv_at hl 0 rfl) ?_
              refine lv_sipush (v := 200) hx hb d_Model_collect_70 (by decide) ?_
              refine lv_icmp_ne (tgt := 83) hx hb d_Model_collect_73 (by decide) (fun c_11 => ?_) (fun c_11 => ?_)
              · skip
                refine lv_iload_n hx hb d_Model_collect_83 rfl (lv_at hl 2 rfl) ?_
                refine lv_if_ne (tgt := 99) hx hb d_Model_collect_84 (by decide) (fun _ => ?_) (fun c_12 => absurd c_12 c_4)
                refine lv_iload_n hx hb d_Model_collect_99 rfl (lv_at hl 2 rfl) ?_
                refine lv_iconst (v := 1) hx hb d_Model_collect_100 (by decide) ?_
                refine lv_icmp_ne (tgt := 116) hx hb d_Model_collect_101 (by decide) (fun c_13 => absurd c_5 c_13) (fun _ => ?_)
                refine lv_aload_n hx hb d_Model_collect_104 rfl (lv_at hl 1 rfl) ?_
                refine cd_get (ci := 4) (C := R_Model) (T := F_Model) (N := 20) (v := .ref (m_ad w 10 1)) hx hb hA i_Model hown hK hW 9 0 rfl rfl rfl 2 (by decide) mw_199 rfl rfl d_Model_collect_105 ?_
                refine lv_iload hx hb d_Model_collect_108 (lv_at hl 0 rfl) ?_
                refine lv_lload_n hx hb d_Model_collect_110 rfl (lv_at hl 3 rfl) ?_
                refine lv_l2i hx hb d_Model_collect_111 rfl ?_
                refine cd_iast hx hb hK hW hS 10 1 (show (1 : Nat) < 11 from by decide) 0 rfl rfl (cm_co hco (cm_in2 c_1 c_2) c_11) d_Model_collect_112 (cm_ce dA (u_mi (u_mc w 0 0) 1 ((x_mi w 3 x.toNatClampNeg).toNatClampNeg) y.toInt32)) rfl (kp_mi dA (u_mc w 0 0) 1 ((x_mi w 3 x.toNatClampNeg).toNatClampNeg) y.toInt32) (fun H locs hW hS => ?_)
                have hW : cm_Wo D dA b0 (u_mi (u_mc w 0 0) 1 ((x_mi w 3 x.toNatClampNeg).toNatClampNeg) y.toInt32) H := to_mi hW
                refine lv_goto (tgt := 125) hx hb d_Model_collect_113 (by decide) ?_
                refine lv_aload_n hx hb d_Model_collect_125 rfl (lv_at hl 1 rfl) ?_
                refine cd_get (ci := 4) (C := R_Model) (T := F_Model) (N := 20) (v := .ref (m_ad w 10 3)) hx hb hA i_Model hown hK hW 9 0 rfl rfl rfl 4 (by decide) mw_190 rfl rfl d_Model_collect_126 ?_
                refine lv_iload_n hx hb d_Model_collect_129 rfl (lv_at hl 2 rfl) ?_
                refine lv_dup2_11 hx hb d_Model_collect_130 rfl rfl ?_
                refine cd_iald hx hb hK hW 10 3 (show (3 : Nat) < 11 from by decide) 0 rfl rfl (cm_in2 c_1 c_2) d_Model_collect_131 ?_
                refine lv_iconst (v := 1) hx hb d_Model_collect_132 (by decide) ?_
                refine lv_iadd hx hb d_Model_collect_133 ?_
                refine cd_iast hx hb hK hW hS 10 3 (show (3 : Nat) < 11 from by decide) 0 rfl rfl (cm_in2 c_1 c_2) d_Model_collect_134 (cm_ce dA (u_mi (u_mi (u_mc w 0 0) 1 ((x_mi w 3 x.toNatClampNeg).toNatClampNeg) y.toInt32) 3 x.toNatClampNeg ((x_mi w 3 x.toNatClampNeg) + 1))) rfl (kp_mi dA (u_mi (u_mc w 0 0) 1 ((x_mi w 3 x.toNatClampNeg).toNatClampNeg) y.toInt32) 3 x.toNatClampNeg ((x_mi w 3 x.toNatClampNeg) + 1)) (fun H locs hW hS => ?_)
                have hW : cm_Wo D dA b0 (u_mi (u_mi (u_mc w 0 0) 1 ((x_mi w 3 x.toNatClampNeg).toNatClampNeg) y.toInt32) 3 x.toNatClampNeg ((x_mi w 3 x.toNatClampNeg) + 1)) H := to_mi hW
                refine lv_aload_n hx hb d_Model_collect_135 rfl (lv_at hl 1 rfl) ?_
                refine lv_dup hx hb d_Model_collect_136 rfl ?_
                refine cd_get (ci := 4) (C := R_Model) (T := F_Model) (N := 20) (v := .int (x_mc w 8)) hx hb hA i_Model hown hK hW 9 0 rfl rfl rfl 19 (by decide) mw_182 rfl rfl d_Model_collect_137 ?_
                refine lv_iconst (v := 1) hx hb d_Model_collect_140 (by decide) ?_
                refine lv_iadd hx hb d_Model_collect_141 ?_
                refine cd_put (ci := 4) (C := R_Model) (T := F_Model) (N := 20) (v := .int ((x_mc w 8) + 1)) hx hb hA i_Model t_Model t_Model_ok n_Model hown hK hW hS 9 0 rfl rfl rfl 19 (by decide) mw_182 rfl rfl rfl rfl (Nat.le_of_ble_eq_true rfl) d_Model_collect_142 (cm_ce dA (u_mc (u_mi (u_mi (u_mc w 0 0) 1 ((x_mi w 3 x.toNatClampNeg).toNatClampNeg) y.toInt32) 3 x.toNatClampNeg ((x_mi w 3 x.toNatClampNeg) + 1)) 8 ((x_mc w 8) + 1))) rfl (kp_mc dA (u_mi (u_mi (u_mc w 0 0) 1 ((x_mi w 3 x.toNatClampNeg).toNatClampNeg) y.toInt32) 3 x.toNatClampNeg ((x_mi w 3 x.toNatClampNeg) + 1)) 8 ((x_mc w 8) + 1)) (fun H locs hW hS => ?_)
                have hW : cm_Wo D dA b0 (u_mc (u_mi (u_mi (u_mc w 0 0) 1 ((x_mi w 3 x.toNatClampNeg).toNatClampNeg) y.toInt32) 3 x.toNatClampNeg ((x_mi w 3 x.toNatClampNeg) + 1)) 8 ((x_mc w 8) + 1)) H := to_mc hW
                refine lv_iload hx hb d_Model_collect_145 (lv_at hl 0 rfl) ?_
                refine lv_iconst (v := 1) hx hb d_Model_collect_147 (by decide) ?_
                refine lv_iadd hx hb d_Model_collect_148 ?_
                have hf : f_Model_collect w x y = (((x_mi w 3 x.toNatClampNeg) + 1), (u_mc (u_mi (u_mi (u_mc w 0 0) 1 ((x_mi w 3 x.toNatClampNeg).toNatClampNeg) y.toInt32) 3 x.toNatClampNeg ((x_mi w 3 x.toNatClampNeg) + 1)) 8 ((x_mc w 8) + 1))) := by
                  simp only [f_Model_collect, if_neg c_1, if_pos c_2, if_neg c_3, if_neg c_4, if_pos c_5, if_pos c_10, if_neg c_11]
                exact cd_iret hx hb hr hlocks hW hS d_Model_collect_149 ⟨by rw [hf], by rw [hf], by rw [hf], by rw [hf]⟩ (Nat.le_of_ble_eq_true rfl) (Nat.le_of_ble_eq_true rfl)
              · skip
                refine lv_aload_n hx hb d_Model_collect_76 rfl (lv_at hl 1 rfl) ?_
                refine lv_bipush (v := (-4)) hx hb d_Model_collect_77 (by decide) ?_
                refine cm_cV (w0 := (f_Model_refuse (u_mc w 0 0) (-4)).2) (x0 := .int ((f_Model_refuse (u_mc w 0 0) (-4)).1)) (rest := []) (n := 1) ⟨hx, hb, hml, hown, hA⟩ (cd_GA mw_173) hE hb0 hW hS 9 0 rfl rfl rfl (c_Model_refuse l D dA b0 (u_mc w 0 0) (-4)) mw_177 mw_175 mw_176 mw_174 (by decide +kernel) rfl rfl ⟨by decide, by decide⟩ rfl hl.1 rfl (Nat.le_of_ble_eq_true rfl) d_Model_collect_79 ⟨by decide, by decide⟩ (fun H locs hW hS => ?_)
                have hf : f_Model_collect w x y = ((f_Model_refuse (u_mc w 0 0) (-4)).1, (f_Model_refuse (u_mc w 0 0) (-4)).2) := by
                  simp only [f_Model_collect, if_neg c_1, if_pos c_2, if_neg c_3, if_neg c_4, if_pos c_5, if_pos c_10, if_pos c_11]
                exact cd_iret hx hb hr hlocks hW hS d_Model_collect_82 ⟨by rw [hf], by rw [hf], by rw [hf], by rw [hf]⟩ (Nat.le_of_ble_eq_true rfl) (Nat.le_of_ble_eq_true rfl)
            · skip
              refine lv_aload_n hx hb d_Model_collect_53 rfl (lv_at hl 0 rfl) ?_
              refine lv_bipush (v := (-2)) hx hb d_Model_collect_54 (by decide) ?_
              refine cm_cV (w0 := (f_Model_refuse (u_mc w 0 0) (-2)).2) (x0 := .int ((f_Model_refuse (u_mc w 0 0) (-2)).1)) (rest := []) (n := 1) ⟨hx, hb, hml, hown, hA⟩ (cd_GA mw_173) hE hb0 hW hS 9 0 rfl rfl rfl (c_Model_refuse l D dA b0 (u_mc w 0 0) (-2)) mw_177 mw_175 mw_176 mw_174 (by decide +kernel) rfl rfl ⟨by decide, by decide⟩ rfl hl.1 rfl (Nat.le_of_ble_eq_true rfl) d_Model_collect_56 ⟨by decide, by decide⟩ (fun H locs hW hS => ?_)
              have hf : f_Model_collect w x y = ((f_Model_refuse (u_mc w 0 0) (-2)).1, (f_Model_refuse (u_mc w 0 0) (-2)).2) := by
                simp only [f_Model_collect, if_neg c_1, if_pos c_2, if_neg c_3, if_neg c_4, if_pos c_5, if_neg c_10]
              exact cd_iret hx hb hr hlocks hW hS d_Model_collect_59 ⟨by rw [hf], by rw [hf], by rw [hf], by rw [hf]⟩ (Nat.le_of_ble_eq_true rfl) (Nat.le_of_ble_eq_true rfl)
        · skip
          refine lv_ldc2 (v := 127) hx hb hown (hA _ mw_215) d_Model_collect_31 ?_
          refine lv_goto (tgt := 49) hx hb d_Model_collect_34 (by decide) ?_
          refine cd_lc_le (tgt := 60) hx hb d_Model_collect_49 d_Model_collect_50 (by decide) (fun c_14 => ?_) (fun c_14 => ?_)
          · skip
            refine lv_aload_n hx hb d_Model_collect_60 rfl (lv_at hl 0 rfl) ?_
            refine cd_get (ci := 4) (C := R_Model) (T := F_Model) (N := 20) (v := .ref (m_ad w 10 3)) hx hb hA i_Model hown hK hW 9 0 rfl rfl rfl 4 (by decide) mw_190 rfl rfl d_Model_collect_61 ?_
            refine lv_iload_n hx hb d_Model_collect_64 rfl (lv_at hl 1 rfl) ?_
            refine cd_iald hx hb hK hW 10 3 (show (3 : Nat) < 11 from by decide) 0 rfl rfl (cm_in2 c_1 c_2) d_Model_collect_65 ?_
            refine lv_istore (lv' := [(4, .int (x_mi w 3 x.toNatClampNeg)), (0, .ref (m_ad w 9 0)), (1, .int x), (2, .long y)]) hx hb d_Model_collect_66 hl (by decide) rfl (fun ls hl => ?_)
            refine lv_iload hx hb d_Model_collect_68 (lv_at hl 0 rfl) ?_
            refine lv_sipush (v := 200) hx hb d_Model_collect_70 (by decide) ?_
            refine lv_icmp_ne (tgt := 83) hx hb d_Model_collect_73 (by decide) (fun c_15 => ?_) (fun c_15 => ?_)
            · skip
              refine lv_iload_n hx hb d_Model_collect_83 rfl (lv_at hl 2 rfl) ?_
              refine lv_if_ne (tgt := 99) hx hb d_Model_collect_84 (by decide) (fun c_16 => absurd c_4 c_16) (fun _ => ?_)
              refine lv_aload_n hx hb d_Model_collect_87 rfl (lv_at hl 1 rfl) ?_
              refine cd_get (ci := 4) (C := R_Model) (T := F_Model) (N := 20) (v := .ref (m_ad w 10 0)) hx hb hA i_Model hown hK hW 9 0 rfl rfl rfl 1 (by decide) mw_193 rfl rfl d_Model_collect_88 ?_
              refine lv_iload hx hb d_Model_collect_91 (lv_at hl 0 rfl) ?_
              refine lv_lload_n hx hb d_Model_collect_93 rfl (lv_at hl 3 rfl) ?_
              refine lv_l2i hx hb d_Model_collect_94 rfl ?_
              refine cd_iast hx hb hK hW hS 10 0 (show (0 : Nat) < 11 from by decide) 0 rfl rfl (cm_co hco (cm_in2 c_1 c_2) c_15) d_Model_collect_95 (cm_ce dA (u_mi (u_mc w 0 0) 0 ((x_mi w 3 x.toNatClampNeg).toNatClampNeg) y.toInt32)) rfl (kp_mi dA (u_mc w 0 0) 0 ((x_mi w 3 x.toNatClampNeg).toNatClampNeg) y.toInt32) (fun H locs hW hS => ?_)
              have hW : cm_Wo D dA b0 (u_mi (u_mc w 0 0) 0 ((x_mi w 3 x.toNatClampNeg).toNatClampNeg) y.toInt32) H := to_mi hW
              refine lv_goto (tgt := 125) hx hb d_Model_collect_96 (by decide) ?_
              refine lv_aload_n hx hb d_Model_collect_125 rfl (lv_at hl 1 rfl) ?_
              refine cd_get (ci := 4) (C := R_Model) (T := F_Model) (N := 20) (v := .ref (m_ad w 10 3)) hx hb hA i_Model hown hK hW 9 0 rfl rfl rfl 4 (by decide) mw_190 rfl rfl d_Model_collect_126 ?_
              refine lv_iload_n hx hb d_Model_collect_129 rfl (lv_at hl 2 rfl) ?_
              refine lv_dup2_11 hx hb d_Model_collect_130 rfl rfl ?_
              refine cd_iald hx hb hK hW 10 3 (show (3 : Nat) < 11 from by decide) 0 rfl rfl (cm_in2 c_1 c_2) d_Model_collect_131 ?_
              refine lv_iconst (v := 1) hx hb d_Model_collect_132 (by decide) ?_
              refine lv_iadd hx hb d_Model_collect_133 ?_
              refine cd_iast hx hb hK hW hS 10 3 (show (3 : Nat) < 11 from by decide) 0 rfl rfl (cm_in2 c_1 c_2) d_Model_collect_134 (cm_ce dA (u_mi (u_mi (u_mc w 0 0) 0 ((x_mi w 3 x.toNatClampNeg).toNatClampNeg) y.toInt32) 3 x.toNatClampNeg ((x_mi w 3 x.toNatClampNeg) + 1))) rfl (kp_mi dA (u_mi (u_mc w 0 0) 0 ((x_mi w 3 x.toNatClampNeg).toNatClampNeg) y.toInt32) 3 x.toNatClampNeg ((x_mi w 3 x.toNatClampNeg) + 1)) (fun H locs hW hS => ?_)
              have hW : cm_Wo D dA b0 (u_mi (u_mi (u_mc w 0 0) 0 ((x_mi w 3 x.toNatClampNeg).toNatClampNeg) y.toInt32) 3 x.toNatClampNeg ((x_mi w 3 x.toNatClampNeg) + 1)) H := to_mi hW
              refine lv_aload_n hx hb d_Model_collect_135 rfl (lv_at hl 1 rfl) ?_
              refine lv_dup hx hb d_Model_collect_136 rfl ?_
              refine cd_get (ci := 4) (C := R_Model) (T := F_Model) (N := 20) (v := .int (x_mc w 8)) hx hb hA i_Model hown hK hW 9 0 rfl rfl rfl 19 (by decide) mw_182 rfl rfl d_Model_collect_137 ?_
              refine lv_iconst (v := 1) hx hb d_Model_collect_140 (by decide) ?_
              refine lv_iadd hx hb d_Model_collect_141 ?_
              refine cd_put (ci := 4) (C := R_Model) (T := F_Model) (N := 20) (v := .int ((x_mc w 8) + 1)) hx hb hA i_Model t_Model t_Model_ok n_Model hown hK hW hS 9 0 rfl rfl rfl 19 (by decide) mw_182 rfl rfl rfl rfl (Nat.le_of_ble_eq_true rfl) d_Model_collect_142 (cm_ce dA (u_mc (u_mi (u_mi (u_mc w 0 0) 0 ((x_mi w 3 x.toNatClampNeg).toNatClampNeg) y.toInt32) 3 x.toNatClampNeg ((x_mi w 3 x.toNatClampNeg) + 1)) 8 ((x_mc w 8) + 1))) rfl (kp_mc dA (u_mi (u_mi (u_mc w 0 0) 0 ((x_mi w 3 x.toNatClampNeg).toNatClampNeg) y.toInt32) 3 x.toNatClampNeg ((x_mi w 3 x.toNatClampNeg) + 1)) 8 ((x_mc w 8) + 1)) (fun H locs hW hS => ?_)
              have hW : cm_Wo D dA b0 (u_mc (u_mi (u_mi (u_mc w 0 0) 0 ((x_mi w 3 x.toNatClampNeg).toNatClampNeg) y.toInt32) 3 x.toNatClampNeg ((x_mi w 3 x.toNatClampNeg) + 1)) 8 ((x_mc w 8) + 1)) H := to_mc hW
              refine lv_iload hx hb d_Model_collect_145 (lv_at hl 0 rfl) ?_
              refine lv_iconst (v := 1) hx hb d_Model_collect_147 (by decide) ?_
              refine lv_iadd hx hb d_Model_collect_148 ?_
              have hf : f_Model_collect w x y = (((x_mi w 3 x.toNatClampNeg) + 1), (u_mc (u_mi (u_mi (u_mc w 0 0) 0 ((x_mi w 3 x.toNatClampNeg).toNatClampNeg) y.toInt32) 3 x.toNatClampNeg ((x_mi w 3 x.toNatClampNeg) + 1)) 8 ((x_mc w 8) + 1))) := by
                simp only [f_Model_collect, if_neg c_1, if_pos c_2, if_neg c_3, if_pos c_4, if_pos c_14, if_neg c_15]
              exact cd_iret hx hb hr hlocks hW hS d_Model_collect_149 ⟨by rw [hf], by rw [hf], by rw [hf], by rw [hf]⟩ (Nat.le_of_ble_eq_true rfl) (Nat.le_of_ble_eq_true rfl)
            · skip
              refine lv_aload_n hx hb d_Model_collect_76 rfl (lv_at hl 1 rfl) ?_
              refine lv_bipush (v := (-4)) hx hb d_Model_collect_77 (by decide) ?_
              refine cm_cV (w0 := (f_Model_refuse (u_mc w 0 0) (-4)).2) (x0 := .int ((f_Model_refuse (u_mc w 0 0) (-4)).1)) (rest := []) (n := 1) ⟨hx, hb, hml, hown, hA⟩ (cd_GA mw_173) hE hb0 hW hS 9 0 rfl rfl rfl (c_Model_refuse l D dA b0 (u_mc w 0 0) (-4)) mw_177 mw_175 mw_176 mw_174 (by decide +kernel) rfl rfl ⟨by decide, by decide⟩ rfl hl.1 rfl (Nat.le_of_ble_eq_true rfl) d_Model_collect_79 ⟨by decide, by decide⟩ (fun H locs hW hS => ?_)
              have hf : f_Model_collect w x y = ((f_Model_refuse (u_mc w 0 0) (-4)).1, (f_Model_refuse (u_mc w 0 0) (-4)).2) := by
                simp only [f_Model_collect, if_neg c_1, if_pos c_2, if_neg c_3, if_pos c_4, if_pos c_14, if_pos c_15]
              exact cd_iret hx hb hr hlocks hW hS d_Model_collect_82 ⟨by rw [hf], by rw [hf], by rw [hf], by rw [hf]⟩ (Nat.le_of_ble_eq_true rfl) (Nat.le_of_ble_eq_true rfl)
          · skip
            refine lv_aload_n hx hb d_Model_collect_53 rfl (lv_at hl 0 rfl) ?_
            refine lv_bipush (v := (-2)) hx hb d_Model_collect_54 (by decide) ?_
            refine cm_cV (w0 := (f_Model_refuse (u_mc w 0 0) (-2)).2) (x0 := .int ((f_Model_refuse (u_mc w 0 0) (-2)).1)) (rest := []) (n := 1) ⟨hx, hb, hml, hown, hA⟩ (cd_GA mw_173) hE hb0 hW hS 9 0 rfl rfl rfl (c_Model_refuse l D dA b0 (u_mc w 0 0) (-2)) mw_177 mw_175 mw_176 mw_174 (by decide +kernel) rfl rfl ⟨by decide, by decide⟩ rfl hl.1 rfl (Nat.le_of_ble_eq_true rfl) d_Model_collect_56 ⟨by decide, by decide⟩ (fun H locs hW hS => ?_)
            have hf : f_Model_collect w x y = ((f_Model_refuse (u_mc w 0 0) (-2)).1, (f_Model_refuse (u_mc w 0 0) (-2)).2) := by
              simp only [f_Model_collect, if_neg c_1, if_pos c_2, if_neg c_3, if_pos c_4, if_neg c_14]
            exact cd_iret hx hb hr hlocks hW hS d_Model_collect_59 ⟨by rw [hf], by rw [hf], by rw [hf], by rw [hf]⟩ (Nat.le_of_ble_eq_true rfl) (Nat.le_of_ble_eq_true rfl)
    · skip
      refine lv_aload_n hx hb d_Model_collect_14 rfl (lv_at hl 0 rfl) ?_
      refine lv_iconst (v := (-1)) hx hb d_Model_collect_15 (by decide) ?_
      refine cm_cV (w0 := (f_Model_refuse (u_mc w 0 0) (-1)).2) (x0 := .int ((f_Model_refuse (u_mc w 0 0) (-1)).1)) (rest := []) (n := 1) ⟨hx, hb, hml, hown, hA⟩ (cd_GA mw_173) hE hb0 hW hS 9 0 rfl rfl rfl (c_Model_refuse l D dA b0 (u_mc w 0 0) (-1)) mw_177 mw_175 mw_176 mw_174 (by decide +kernel) rfl rfl ⟨by decide, by decide⟩ rfl hl.1 rfl (Nat.le_of_ble_eq_true rfl) d_Model_collect_16 ⟨by decide, by decide⟩ (fun H locs hW hS => ?_)
      have hf : f_Model_collect w x y = ((f_Model_refuse (u_mc w 0 0) (-1)).1, (f_Model_refuse (u_mc w 0 0) (-1)).2) := by
        simp only [f_Model_collect, if_neg c_1, if_neg c_2]
      exact cd_iret hx hb hr hlocks hW hS d_Model_collect_19 ⟨by rw [hf], by rw [hf], by rw [hf], by rw [hf]⟩ (Nat.le_of_ble_eq_true rfl) (Nat.le_of_ble_eq_true rfl)

def f_Model_drop (w : cm_W) (x : Int32) : Int32 × cm_W := if x < 0 then (0, (f_Model_refuse (u_mc w 0 0) (-3)).2) else if 384 ≤ x then (0, (f_Model_refuse (u_mc w 0 0) (-3)).2) else if (x_mi w 6 x.toNatClampNeg) = 0 then (0, (f_Model_refuse (u_mc w 0 0) (-3)).2) else if (f_Model_isUsed (u_mc w 0 0) x) = 0 then (1, (u_mc (u_mi (u_mc w 0 0) 6 x.toNatClampNeg 0) 8 ((x_mc w 8) + 1))) else (0, (f_Model_refuse (u_mc w 0 0) (-3)).2)
set_option maxHeartbeats 4000000 in
set_option maxRecDepth 100000 in
theorem c_Model_drop (l : Launch) (D : va_G) (dA : Nat → ClassId) (b0 : Nat) (w : cm_W) (x : Int32) : cd_Ct l D (cx_tys dA) b0 y_Model_drop (.code y_Model_drop b_Model_drop 4 (some .boolean) :: cd_WA) { frames := 1, cells := 0, slots := 0, locals := 23 } [.ref (m_ad w 9 0), .int x] (cm_dm w) (m_ad w) (cm_ce dA w) (cm_R dA (some (.int (f_Model_drop w x).1)) (f_Model_drop w x).2) 0 0 := by
  refine cd_Ct.of b_Model_drop 4 (some .boolean) (by decide) rfl ?_
  intro p e s m below meth c hx hb hr hml hown hlocks hnm hA hE hb0 hW hS ls hl
  have hK := hE.1
  have hl : lv_has ls 4 [(0, .ref (m_ad w 9 0)), (1, .int x)] := hl
  refine lv_aload_n hx hb d_Model_drop_0 rfl (lv_at hl 0 rfl) ?_
  refine lv_iconst (v := 0) hx hb d_Model_drop_1 (by decide) ?_
  refine cd_put (ci := 4) (C := R_Model) (T := F_Model) (N := 20) (v := .int 0) hx hb hA i_Model t_Model t_Model_ok n_Model hown hK hW hS 9 0 rfl rfl rfl 0 (by decide) mw_172 rfl rfl rfl rfl (Nat.le_of_ble_eq_true rfl) d_Model_drop_2 (cm_ce dA (u_mc w 0 0)) rfl (kp_mc dA w 0 0) (fun H locs hW hS => ?_)
  have hW : cm_Wo D dA b0 (u_mc w 0 0) H := to_mc hW
  refine lv_iload_n hx hb d_Model_drop_5 rfl (lv_at hl 1 rfl) ?_
  refine lv_if_lt (tgt := 37) hx hb d_Model_drop_6 (by decide) (fun c_1 => ?_) (fun c_1 => ?_)
  · skip
    refine lv_iconst (v := 0) hx hb d_Model_drop_37 (by decide) ?_
    refine lv_istore_n (lv' := [(2, .int 0), (0, .ref (m_ad w 9 0)), (1, .int x)]) hx hb d_Model_drop_38 rfl hl (by decide) rfl (fun ls hl => ?_)
    refine lv_iload_n hx hb d_Model_drop_39 rfl (lv_at hl 0 rfl) ?_
    refine lv_if_ne (tgt := 52) hx hb d_Model_drop_40 (by decide) (fun c_2 => absurd (by decide) c_2) (fun _ => ?_)
    refine lv_aload_n hx hb d_Model_drop_43 rfl (lv_at hl 1 rfl) ?_
    refine lv_bipush (v := (-3)) hx hb d_Model_drop_44 (by decide) ?_
    refine cm_cV (w0 := (f_Model_refuse (u_mc w 0 0) (-3)).2) (x0 := .int ((f_Model_refuse (u_mc w 0 0) (-3)).1)) (rest := []) (n := 1) ⟨hx, hb, hml, hown, hA⟩ (cd_GA mw_173) hE hb0 hW hS 9 0 rfl rfl rfl (c_Model_refuse l D dA b0 (u_mc w 0 0) (-3)) mw_177 mw_175 mw_176 mw_174 (by decide +kernel) rfl rfl ⟨by decide, by decide⟩ rfl hl.1 rfl (Nat.le_of_ble_eq_true rfl) d_Model_drop_46 ⟨by decide, by decide⟩ (fun H locs hW hS => ?_)
    refine lv_istore_n (lv' := [(3, .int ((f_Model_refuse (u_mc w 0 0) (-3)).1)), (2, .int 0), (0, .ref (m_ad w 9 0)), (1, .int x)]) hx hb d_Model_drop_49 rfl hl (by decide) rfl (fun ls hl => ?_)
    refine lv_iconst (v := 0) hx hb d_Model_drop_50 (by decide) ?_
    have hf : f_Model_drop w x = (0, (f_Model_refuse (u_mc w 0 0) (-3)).2) := by
      simp only [f_Model_drop, if_pos c_1]
    exact cd_zret hx hb hr hlocks hW hS d_Model_drop_51 (by decide) ⟨by rw [hf], by rw [hf], by rw [hf], by rw [hf]⟩ (Nat.le_of_ble_eq_true rfl) (Nat.le_of_ble_eq_true rfl)
  · skip
    refine lv_iload_n hx hb d_Model_drop_9 rfl (lv_at hl 1 rfl) ?_
    refine lv_sipush (v := 384) hx hb d_Model_drop_10 (by decide) ?_
    refine lv_icmp_ge (tgt := 37) hx hb d_Model_drop_13 (by decide) (fun c_3 => ?_) (fun c_3 => ?_)
    · skip
      refine lv_iconst (v := 0) hx hb d_Model_drop_37 (by decide) ?_
      refine lv_istore_n (lv' := [(2, .int 0), (0, .ref (m_ad w 9 0)), (1, .int x)]) hx hb d_Model_drop_38 rfl hl (by decide) rfl (fun ls hl => ?_)
      refine lv_iload_n hx hb d_Model_drop_39 rfl (lv_at hl 0 rfl) ?_
      refine lv_if_ne (tgt := 52) hx hb d_Model_drop_40 (by decide) (fun c_4 => absurd (by decide) c_4) (fun _ => ?_)
      refine lv_aload_n hx hb d_Model_drop_43 rfl (lv_at hl 1 rfl) ?_
      refine lv_bipush (v := (-3)) hx hb d_Model_drop_44 (by decide) ?_
      refine cm_cV (w0 := (f_Model_refuse (u_mc w 0 0) (-3)).2) (x0 := .int ((f_Model_refuse (u_mc w 0 0) (-3)).1)) (rest := []) (n := 1) ⟨hx, hb, hml, hown, hA⟩ (cd_GA mw_173) hE hb0 hW hS 9 0 rfl rfl rfl (c_Model_refuse l D dA b0 (u_mc w 0 0) (-3)) mw_177 mw_175 mw_176 mw_174 (by decide +kernel) rfl rfl ⟨by decide, by decide⟩ rfl hl.1 rfl (Nat.le_of_ble_eq_true rfl) d_Model_drop_46 ⟨by decide, by decide⟩ (fun H locs hW hS => ?_)
      refine lv_istore_n (lv' := [(3, .int ((f_Model_refuse (u_mc w 0 0) (-3)).1)), (2, .int 0), (0, .ref (m_ad w 9 0)), (1, .int x)]) hx hb d_Model_drop_49 rfl hl (by decide) rfl (fun ls hl => ?_)
      refine lv_iconst (v := 0) hx hb d_Model_drop_50 (by decide) ?_
      have hf : f_Model_drop w x = (0, (f_Model_refuse (u_mc w 0 0) (-3)).2) := by
        simp only [f_Model_drop, if_neg c_1, if_pos c_3]
      exact cd_zret hx hb hr hlocks hW hS d_Model_drop_51 (by decide) ⟨by rw [hf], by rw [hf], by rw [hf], by rw [hf]⟩ (Nat.le_of_ble_eq_true rfl) (Nat.le_of_ble_eq_true rfl)
    · skip
      refine lv_aload_n hx hb d_Model_drop_16 rfl (lv_at hl 0 rfl) ?_
      refine cd_get (ci := 4) (C := R_Model) (T := F_Model) (N := 20) (v := .ref (m_ad w 10 6)) hx hb hA i_Model hown hK hW 9 0 rfl rfl rfl 7 (by decide) mw_191 rfl rfl d_Model_drop_17 ?_
      refine lv_iload_n hx hb d_Model_drop_20 rfl (lv_at hl 1 rfl) ?_
      refine cd_zald hx hb hK hW 10 6 (show (6 : Nat) < 11 from by decide) 4 rfl rfl (cd_in 384 (by decide) c_1 c_3) d_Model_drop_21 ?_
      refine lv_if_eq (tgt := 37) hx hb d_Model_drop_22 (by decide) (fun c_5 => ?_) (fun c_5 => ?_)
      · skip
        refine lv_iconst (v := 0) hx hb d_Model_drop_37 (by decide) ?_
        refine lv_istore_n (lv' := [(2, .int 0), (0, .ref (m_ad w 9 0)), (1, .int x)]) hx hb d_Model_drop_38 rfl hl (by decide) rfl (fun ls hl => ?_)
        refine lv_iload_n hx hb d_Model_drop_39 rfl (lv_at hl 0 rfl) ?_
        refine lv_if_ne (tgt := 52) hx hb d_Model_drop_40 (by decide) (fun c_6 => absurd (by decide) c_6) (fun _ => ?_)
        refine lv_aload_n hx hb d_Model_drop_43 rfl (lv_at hl 1 rfl) ?_
        refine lv_bipush (v := (-3)) hx hb d_Model_drop_44 (by decide) ?_
        refine cm_cV (w0 := (f_Model_refuse (u_mc w 0 0) (-3)).2) (x0 := .int ((f_Model_refuse (u_mc w 0 0) (-3)).1)) (rest := []) (n := 1) ⟨hx, hb, hml, hown, hA⟩ (cd_GA mw_173) hE hb0 hW hS 9 0 rfl rfl rfl (c_Model_refuse l D dA b0 (u_mc w 0 0) (-3)) mw_177 mw_175 mw_176 mw_174 (by decide +kernel) rfl rfl ⟨by decide, by decide⟩ rfl hl.1 rfl (Nat.le_of_ble_eq_true rfl) d_Model_drop_46 ⟨by decide, by decide⟩ (fun H locs hW hS => ?_)
        refine lv_istore_n (lv' := [(3, .int ((f_Model_refuse (u_mc w 0 0) (-3)).1)), (2, .int 0), (0, .ref (m_ad w 9 0)), (1, .int x)]) hx hb d_Model_drop_49 rfl hl (by decide) rfl (fun ls hl => ?_)
        refine lv_iconst (v := 0) hx hb d_Model_drop_50 (by decide) ?_
        have hf : f_Model_drop w x = (0, (f_Model_refuse (u_mc w 0 0) (-3)).2) := by
          simp only [f_Model_drop, if_neg c_1, if_neg c_3, if_pos c_5]
        exact cd_zret hx hb hr hlocks hW hS d_Model_drop_51 (by decide) ⟨by rw [hf], by rw [hf], by rw [hf], by rw [hf]⟩ (Nat.le_of_ble_eq_true rfl) (Nat.le_of_ble_eq_true rfl)
      · skip
        refine lv_aload_n hx hb d_Model_drop_25 rfl (lv_at hl 0 rfl) ?_
        refine lv_iload_n hx hb d_Model_drop_26 rfl (lv_at hl 1 rfl) ?_
        refine cm_cV (w0 := (u_mc w 0 0)) (x0 := .int (f_Model_isUsed (u_mc w 0 0) x)) (rest := []) (n := 1) ⟨hx, hb, hml, hown, hA⟩ (cd_GA mw_207) hE hb0 hW hS 9 0 rfl rfl rfl (c_Model_isUsed l D dA b0 (u_mc w 0 0) x) mw_210 mw_208 mw_209 mw_174 (by decide +kernel) rfl rfl ⟨by decide, by decide⟩ rfl hl.1 rfl (Nat.le_of_ble_eq_true rfl) d_Model_drop_27 ⟨by decide, by decide⟩ (fun H locs hW hS => ?_)
        refine lv_if_ne (tgt := 37) hx hb d_Model_drop_30 (by decide) (fun c_7 => ?_) (fun c_7 => ?_)
        · skip
          refine lv_iconst (v := 0) hx hb d_Model_drop_37 (by decide) ?_
          refine lv_istore_n (lv' := [(2, .int 0), (0, .ref (m_ad w 9 0)), (1, .int x)]) hx hb d_Model_drop_38 rfl hl (by decide) rfl (fun ls hl => ?_)
          refine lv_iload_n hx hb d_Model_drop_39 rfl (lv_at hl 0 rfl) ?_
          refine lv_if_ne (tgt := 52) hx hb d_Model_drop_40 (by decide) (fun c_8 => absurd (by decide) c_8) (fun _ => ?_)
          refine lv_aload_n hx hb d_Model_drop_43 rfl (lv_at hl 1 rfl) ?_
          refine lv_bipush (v := (-3)) hx hb d_Model_drop_44 (by decide) ?_
          refine cm_cV (w0 := (f_Model_refuse (u_mc w 0 0) (-3)).2) (x0 := .int ((f_Model_refuse (u_mc w 0 0) (-3)).1)) (rest := []) (n := 1) ⟨hx, hb, hml, hown, hA⟩ (cd_GA mw_173) hE hb0 hW hS 9 0 rfl rfl rfl (c_Model_refuse l D dA b0 (u_mc w 0 0) (-3)) mw_177 mw_175 mw_176 mw_174 (by decide +kernel) rfl rfl ⟨by decide, by decide⟩ rfl hl.1 rfl (Nat.le_of_ble_eq_true rfl) d_Model_drop_46 ⟨by decide, by decide⟩ (fun H locs hW hS => ?_)
          refine lv_istore_n (lv' := [(3, .int ((f_Model_refuse (u_mc w 0 0) (-3)).1)), (2, .int 0), (0, .ref (m_ad w 9 0)), (1, .int x)]) hx hb d_Model_drop_49 rfl hl (by decide) rfl (fun ls hl => ?_)
          refine lv_iconst (v := 0) hx hb d_Model_drop_50 (by decide) ?_
          have hf : f_Model_drop w x = (0, (f_Model_refuse (u_mc w 0 0) (-3)).2) := by
            simp only [f_Model_drop, if_neg c_1, if_neg c_3, if_neg c_5, if_neg c_7]
          exact cd_zret hx hb hr hlocks hW hS d_Model_drop_51 (by decide) ⟨by rw [hf], by rw [hf], by rw [hf], by rw [hf]⟩ (Nat.le_of_ble_eq_true rfl) (Nat.le_of_ble_eq_true rfl)
        · skip
          refine lv_iconst (v := 1) hx hb d_Model_drop_33 (by decide) ?_
          refine lv_goto (tgt := 38) hx hb d_Model_drop_34 (by decide) ?_
          refine lv_istore_n (lv' := [(2, .int 1), (0, .ref (m_ad w 9 0)), (1, .int x)]) hx hb d_Model_drop_38 rfl hl (by decide) rfl (fun ls hl => ?_)
          refine lv_iload_n hx hb d_Model_drop_39 rfl (lv_at hl 0 rfl) ?_
          refine lv_if_ne (tgt := 52) hx hb d_Model_drop_40 (by decide) (fun _ => ?_) (fun c_9 => absurd c_9 (by decide))
          refine lv_aload_n hx hb d_Model_drop_52 rfl (lv_at hl 1 rfl) ?_
          refine cd_get (ci := 4) (C := R_Model) (T := F_Model) (N := 20) (v := .ref (m_ad w 10 6)) hx hb hA i_Model hown hK hW 9 0 rfl rfl rfl 7 (by decide) mw_191 rfl rfl d_Model_drop_53 ?_
          refine lv_iload_n hx hb d_Model_drop_56 rfl (lv_at hl 2 rfl) ?_
          refine lv_iconst (v := 0) hx hb d_Model_drop_57 (by decide) ?_
          refine cd_zast hx hb hK hW hS 10 6 (show (6 : Nat) < 11 from by decide) 4 rfl rfl (cd_in 384 (by decide) c_1 c_3) d_Model_drop_58 (cm_ce dA (u_mi (u_mc w 0 0) 6 x.toNatClampNeg 0)) (by rw [show vp_nar .boolean 0 = 0 by decide]; rfl) (kp_mi dA (u_mc w 0 0) 6 x.toNatClampNeg 0) (fun H locs hW hS => ?_)
          have hW : cm_Wo D dA b0 (u_mi (u_mc w 0 0) 6 x.toNatClampNeg 0) H := to_mi hW
          refine lv_aload_n hx hb d_Model_drop_59 rfl (lv_at hl 1 rfl) ?_
          refine lv_dup hx hb d_Model_drop_60 rfl ?_
          refine cd_get (ci := 4) (C := R_Model) (T := F_Model) (N := 20) (v := .int (x_mc w 8)) hx hb hA i_Model hown hK hW 9 0 rfl rfl rfl 19 (by decide) mw_182 rfl rfl d_Model_drop_61 ?_
          refine lv_iconst (v := 1) hx hb d_Model_drop_64 (by decide) ?_
          refine lv_iadd hx hb d_Model_drop_65 ?_
          refine cd_put (ci := 4) (C := R_Model) (T := F_Model) (N := 20) (v := .int ((x_mc w 8) + 1)) hx hb hA i_Model t_Model t_Model_ok n_Model hown hK hW hS 9 0 rfl rfl rfl 19 (by decide) mw_182 rfl rfl rfl rfl (Nat.le_of_ble_eq_true rfl) d_Model_drop_66 (cm_ce dA (u_mc (u_mi (u_mc w 0 0) 6 x.toNatClampNeg 0) 8 ((x_mc w 8) + 1))) rfl (kp_mc dA (u_mi (u_mc w 0 0) 6 x.toNatClampNeg 0) 8 ((x_mc w 8) + 1)) (fun H locs hW hS => ?_)
          have hW : cm_Wo D dA b0 (u_mc (u_mi (u_mc w 0 0) 6 x.toNatClampNeg 0) 8 ((x_mc w 8) + 1)) H := to_mc hW
          refine lv_iconst (v := 1) hx hb d_Model_drop_69 (by decide) ?_
          have hf : f_Model_drop w x = (1, (u_mc (u_mi (u_mc w 0 0) 6 x.toNatClampNeg 0) 8 ((x_mc w 8) + 1))) := by
            simp only [f_Model_drop, if_neg c_1, if_neg c_3, if_neg c_5, if_pos c_7]
          exact cd_zret hx hb hr hlocks hW hS d_Model_drop_70 (by decide) ⟨by rw [hf], by rw [hf], by rw [hf], by rw [hf]⟩ (Nat.le_of_ble_eq_true rfl) (Nat.le_of_ble_eq_true rfl)

def f_Model_call (w : cm_W) (x : Int32) (n : Int32) (y : Int64) : Int64 × cm_W := if (f_Model_why (u_mc w 0 0) x n y) = 0 then (if (x_mi w 5 x.toNatClampNeg) ≤ 0 then (if (x / 6) = 1 then ((f_Model_answerOf (u_mc (u_mc (u_mc w 0 0) 8 ((x_mc w 8) + 1)) 6 ((x_mc w 6) + 1)) x n y), (u_ml (u_mc (u_mc (u_mc w 0 0) 8 ((x_mc w 8) + 1)) 6 ((x_mc w 6) + 1)) 7 n.toNatClampNeg y)) else if (x / 6) = 2 then ((f_Model_answerOf (u_mc (u_mc (u_mc w 0 0) 8 ((x_mc w 8) + 1)) 6 ((x_mc w 6) + 1)) x n y), (u_mi (u_ml (u_mc (u_mc (u_mc w 0 0) 8 ((x_mc w 8) + 1)) 6 ((x_mc w 6) + 1)) 7 n.toNatClampNeg (f_Model_stepped (u_mc (u_mc (u_mc w 0 0) 8 ((x_mc w 8) + 1)) 6 ((x_mc w 6) + 1)) x n y)) 8 n.toNatClampNeg ((x_mi w 8 n.toNatClampNeg) + 1))) else ((f_Model_answerOf (u_mc (u_mc (u_mc w 0 0) 8 ((x_mc w 8) + 1)) 6 ((x_mc w 6) + 1)) x n y), (u_mc (u_mc (u_mc w 0 0) 8 ((x_mc w 8) + 1)) 6 ((x_mc w 6) + 1)))) else (((-100) - ((x_mi w 5 x.toNatClampNeg).toInt64)), (u_mc (u_mc (u_mc (u_mc (u_mc (u_mc w 0 0) 8 ((x_mc w 8) + 1)) 2 ((x_mc w 2) + 1)) 3 (x_mi w 5 x.toNatClampNeg)) 4 x) 5 n))) else (((f_Model_refuse (u_mc w 0 0) (f_Model_why (u_mc w 0 0) x n y)).1).toInt64, (f_Model_refuse (u_mc w 0 0) (f_Model_why (u_mc w 0 0) x n y)).2)
set_option maxHeartbeats 4000000 in
set_option maxRecDepth 100000 in
theorem c_Model_call (l : Launch) (D : va_G) (dA : Nat → ClassId) (b0 : Nat) (w : cm_W) (x : Int32) (n : Int32) (y : Int64) (hof : f_Model_why (u_mc w 0 0) x n y = 0 → (x - x / 6 * 6) = 3 → vp_in (x_mi w 9 n.toNatClampNeg) 384) : cd_Ct l D (cx_tys dA) b0 y_Model_call (.code y_Model_call b_Model_call 8 (some .long) :: cd_WA) { frames := 2, cells := 0, slots := 0, locals := 48 } [.ref (m_ad w 9 0), .int x, .int n, .long y] (cm_dm w) (m_ad w) (cm_ce dA w) (cm_R dA (some (.long (f_Model_call w x n y).1)) (f_Model_call w x n y).2) 0 0 := by
  refine cd_Ct.of b_Model_call 8 (some .long) (by decide) rfl ?_
  intro p e s m below meth c hx hb hr hml hown hlocks hnm hA hE hb0 hW hS ls hl
  have hK := hE.1
  have hl : lv_has ls 8 [(0, .ref (m_ad w 9 0)), (1, .int x), (2, .int n), (3, .long y)] := hl
  refine lv_aload_n hx hb d_Model_call_0 rfl (lv_at hl 0 rfl) ?_
  refine lv_iconst (v := 0) hx hb d_Model_call_1 (by decide) ?_
  refine cd_put (ci := 4) (C := R_Model) (T := F_Model) (N := 20) (v := .int 0) hx hb hA i_Model t_Model t_Model_ok n_Model hown hK hW hS 9 0 rfl rfl rfl 0 (by decide) mw_172 rfl rfl rfl rfl (Nat.le_of_ble_eq_true rfl) d_Model_call_2 (cm_ce dA (u_mc w 0 0)) rfl (kp_mc dA w 0 0) (fun H locs hW hS => ?_)
  have hW : cm_Wo D dA b0 (u_mc w 0 0) H := to_mc hW
  refine lv_aload_n hx hb d_Model_call_5 rfl (lv_at hl 0 rfl) ?_
  refine lv_iload_n hx hb d_Model_call_6 rfl (lv_at hl 1 rfl) ?_
  refine lv_iload_n hx hb d_Model_call_7 rfl (lv_at hl 2 rfl) ?_
  refine lv_lload_n hx hb d_Model_call_8 rfl (lv_at hl 3 rfl) ?_
  refine cm_cV (w0 := (u_mc w 0 0)) (x0 := .int (f_Model_why (u_mc w 0 0) x n y)) (rest := []) (n := 3) ⟨hx, hb, hml, hown, hA⟩ (cd_GA mw_216) hE hb0 hW hS 9 0 rfl rfl rfl (c_Model_why l D dA b0 (u_mc w 0 0) x n y) mw_219 mw_217 mw_218 mw_174 (by decide +kernel) rfl rfl ⟨by decide, by decide⟩ rfl hl.1 rfl (Nat.le_of_ble_eq_true rfl) d_Model_call_9 ⟨by decide, by decide⟩ (fun H locs hW hS => ?_)
  refine lv_istore (lv' := [(5, .int (f_Model_why (u_mc w 0 0) x n y)), (0, .ref (m_ad w 9 0)), (1, .int x), (2, .int n), (3, .long y)]) hx hb d_Model_call_12 hl (by decide) rfl (fun ls hl => ?_)
  refine lv_iload hx hb d_Model_call_14 (lv_at hl 0 rfl) ?_
  refine lv_if_eq (tgt := 27) hx hb d_Model_call_16 (by decide) (fun c_1 => ?_) (fun c_1 => ?_)
  · skip
    refine lv_aload_n hx hb d_Model_call_27 rfl (lv_at hl 1 rfl) ?_
    refine lv_dup hx hb d_Model_call_28 rfl ?_
    refine cd_get (ci := 4) (C := R_Model) (T := F_Model) (N := 20) (v := .int (x_mc w 8)) hx hb hA i_Model hown hK hW 9 0 rfl rfl rfl 19 (by decide) mw_182 rfl rfl d_Model_call_29 ?_
    refine lv_iconst (v := 1) hx hb d_Model_call_32 (by decide) ?_
    refine lv_iadd hx hb d_Model_call_33 ?_
    refine cd_put (ci := 4) (C := R_Model) (T := F_Model) (N := 20) (v := .int ((x_mc w 8) + 1)) hx hb hA i_Model t_Model t_Model_ok n_Model hown hK hW hS 9 0 rfl rfl rfl 19 (by decide) mw_182 rfl rfl rfl rfl (Nat.le_of_ble_eq_true rfl) d_Model_call_34 (cm_ce dA (u_mc (u_mc w 0 0) 8 ((x_mc w 8) + 1))) rfl (kp_mc dA (u_mc w 0 0) 8 ((x_mc w 8) + 1)) (fun H locs hW hS => ?_)
    have hW : cm_Wo D dA b0 (u_mc (u_mc w 0 0) 8 ((x_mc w 8) + 1)) H := to_mc hW
    refine lv_aload_n hx hb d_Model_call_37 rfl (lv_at hl 1 rfl) ?_
    refine cd_get (ci := 4) (C := R_Model) (T := F_Model) (N := 20) (v := .ref (m_ad w 10 5)) hx hb hA i_Model hown hK hW 9 0 rfl rfl rfl 6 (by decide) mw_183 rfl rfl d_Model_call_38 ?_
    refine lv_iload_n hx hb d_Model_call_41 rfl (lv_at hl 2 rfl) ?_
    refine cd_iald hx hb hK hW 10 5 (show (5 : Nat) < 11 from by decide) 0 rfl rfl (why_in c_1).1 d_Model_call_42 ?_
    refine lv_if_le (tgt := 88) hx hb d_Model_call_43 (by decide) (fun c_2 => ?_) (fun c_2 => ?_)
    · skip
      refine lv_aload_n hx hb d_Model_call_88 rfl (lv_at hl 1 rfl) ?_
      refine lv_dup hx hb d_Model_call_89 rfl ?_
      refine cd_get (ci := 4) (C := R_Model) (T := F_Model) (N := 20) (v := .int (x_mc w 6)) hx hb hA i_Model hown hK hW 9 0 rfl rfl rfl 17 (by decide) mw_188 rfl rfl d_Model_call_90 ?_
      refine lv_iconst (v := 1) hx hb d_Model_call_93 (by decide) ?_
      refine lv_iadd hx hb d_Model_call_94 ?_
      refine cd_put (ci := 4) (C := R_Model) (T := F_Model) (N := 20) (v := .int ((x_mc w 6) + 1)) hx hb hA i_Model t_Model t_Model_ok n_Model hown hK hW hS 9 0 rfl rfl rfl 17 (by decide) mw_188 rfl rfl rfl rfl (Nat.le_of_ble_eq_true rfl) d_Model_call_95 (cm_ce dA (u_mc (u_mc (u_mc w 0 0) 8 ((x_mc w 8) + 1)) 6 ((x_mc w 6) + 1))) rfl (kp_mc dA (u_mc (u_mc w 0 0) 8 ((x_mc w 8) + 1)) 6 ((x_mc w 6) + 1)) (fun H locs hW hS => ?_)
      have hW : cm_Wo D dA b0 (u_mc (u_mc (u_mc w 0 0) 8 ((x_mc w 8) + 1)) 6 ((x_mc w 6) + 1)) H := to_mc hW
      refine lv_aload_n hx hb d_Model_call_98 rfl (lv_at hl 1 rfl) ?_
      refine lv_iload_n hx hb d_Model_call_99 rfl (lv_at hl 2 rfl) ?_
      refine lv_iload_n hx hb d_Model_call_100 rfl (lv_at hl 3 rfl) ?_
      refine lv_lload_n hx hb d_Model_call_101 rfl (lv_at hl 4 rfl) ?_
      refine cm_cV (w0 := (u_mc (u_mc (u_mc w 0 0) 8 ((x_mc w 8) + 1)) 6 ((x_mc w 6) + 1))) (x0 := .long (f_Model_answerOf (u_mc (u_mc (u_mc w 0 0) 8 ((x_mc w 8) + 1)) 6 ((x_mc w 6) + 1)) x n y)) (rest := []) (n := 3) ⟨hx, hb, hml, hown, hA⟩ (cd_GA mw_220) hE hb0 hW hS 9 0 rfl rfl rfl (c_Model_answerOf l D dA b0 (u_mc (u_mc (u_mc w 0 0) 8 ((x_mc w 8) + 1)) 6 ((x_mc w 6) + 1)) x n y (why_in c_1).1 (why_in c_1).2.1 (why_in c_1).2.2) mw_223 mw_221 mw_222 mw_174 (by decide +kernel) rfl rfl ⟨by decide, by decide⟩ rfl hl.1 rfl (Nat.le_of_ble_eq_true rfl) d_Model_call_102 ⟨by decide, by decide⟩ (fun H locs hW hS => ?_)
      refine lv_lstore (lv' := [(6, .long (f_Model_answerOf (u_mc (u_mc (u_mc w 0 0) 8 ((x_mc w 8) + 1)) 6 ((x_mc w 6) + 1)) x n y)), (5, .int (f_Model_why (u_mc w 0 0) x n y)), (0, .ref (m_ad w 9 0)), (1, .int x), (2, .int n), (3, .long y)]) hx hb d_Model_call_105 hl (by decide) rfl (fun ls hl => ?_)
      refine lv_iload_n hx hb d_Model_call_107 rfl (lv_at hl 3 rfl) ?_
      refine lv_bipush (v := 6) hx hb d_Model_call_108 (by decide) ?_
      refine lv_idiv hx hb d_Model_call_110 (by decide) ?_
      refine lv_iconst (v := 1) hx hb d_Model_call_111 (by decide) ?_
      refine lv_icmp_ne (tgt := 125) hx hb d_Model_call_112 (by decide) (fun c_3 => ?_) (fun c_3 => ?_)
      · skip
        refine lv_iload_n hx hb d_Model_call_125 rfl (lv_at hl 3 rfl) ?_
        refine lv_bipush (v := 6) hx hb d_Model_call_126 (by decide) ?_
        refine lv_idiv hx hb d_Model_call_128 (by decide) ?_
        refine lv_iconst (v := 2) hx hb d_Model_call_129 (by decide) ?_
        refine lv_icmp_ne (tgt := 156) hx hb d_Model_call_130 (by decide) (fun c_4 => ?_) (fun c_4 => ?_)
        · skip
          refine lv_lload hx hb d_Model_call_156 (lv_at hl 0 rfl) ?_
          have hf : f_Model_call w x n y = ((f_Model_answerOf (u_mc (u_mc (u_mc w 0 0) 8 ((x_mc w 8) + 1)) 6 ((x_mc w 6) + 1)) x n y), (u_mc (u_mc (u_mc w 0 0) 8 ((x_mc w 8) + 1)) 6 ((x_mc w 6) + 1))) := by
            simp only [f_Model_call, if_pos c_1, if_pos c_2, if_neg c_3, if_neg c_4]
          exact cd_lret hx hb hr hlocks hW hS d_Model_call_158 ⟨by rw [hf], by rw [hf], by rw [hf], by rw [hf]⟩ (Nat.le_of_ble_eq_true rfl) (Nat.le_of_ble_eq_true rfl)
        · skip
          refine lv_aload_n hx hb d_Model_call_133 rfl (lv_at hl 2 rfl) ?_
          refine cd_get (ci := 4) (C := R_Model) (T := F_Model) (N := 20) (v := .ref (m_ad w 10 7)) hx hb hA i_Model hown hK hW 9 0 rfl rfl rfl 8 (by decide) mw_211 rfl rfl d_Model_call_134 ?_
          refine lv_iload_n hx hb d_Model_call_137 rfl (lv_at hl 4 rfl) ?_
          refine lv_aload_n hx hb d_Model_call_138 rfl (lv_at hl 2 rfl) ?_
          refine lv_iload_n hx hb d_Model_call_139 rfl (lv_at hl 3 rfl) ?_
          refine lv_iload_n hx hb d_Model_call_140 rfl (lv_at hl 4 rfl) ?_
          refine lv_lload_n hx hb d_Model_call_141 rfl (lv_at hl 5 rfl) ?_
          refine cm_cV (w0 := (u_mc (u_mc (u_mc w 0 0) 8 ((x_mc w 8) + 1)) 6 ((x_mc w 6) + 1))) (x0 := .long (f_Model_stepped (u_mc (u_mc (u_mc w 0 0) 8 ((x_mc w 8) + 1)) 6 ((x_mc w 6) + 1)) x n y)) (rest := [.int n, .ref (m_ad w 10 7)]) (n := 3) ⟨hx, hb, hml, hown, hA⟩ (cd_GA mw_224) hE hb0 hW hS 9 0 rfl rfl rfl (c_Model_stepped l D dA b0 (u_mc (u_mc (u_mc w 0 0) 8 ((x_mc w 8) + 1)) 6 ((x_mc w 6) + 1)) x n y (why_in c_1).1 (why_in c_1).2.1 (hof c_1)) mw_227 mw_225 mw_226 mw_174 (by decide +kernel) rfl rfl ⟨by decide, by decide⟩ rfl hl.1 rfl (Nat.le_of_ble_eq_true rfl) d_Model_call_142 ⟨by decide, by decide⟩ (fun H locs hW hS => ?_)
          refine cd_last hx hb hK hW hS 10 7 (show (7 : Nat) < 11 from by decide) 1 rfl rfl (why_in c_1).2.1 d_Model_call_145 (cm_ce dA (u_ml (u_mc (u_mc (u_mc w 0 0) 8 ((x_mc w 8) + 1)) 6 ((x_mc w 6) + 1)) 7 n.toNatClampNeg (f_Model_stepped (u_mc (u_mc (u_mc w 0 0) 8 ((x_mc w 8) + 1)) 6 ((x_mc w 6) + 1)) x n y))) rfl (kp_ml dA (u_mc (u_mc (u_mc w 0 0) 8 ((x_mc w 8) + 1)) 6 ((x_mc w 6) + 1)) 7 n.toNatClampNeg (f_Model_stepped (u_mc (u_mc (u_mc w 0 0) 8 ((x_mc w 8) + 1)) 6 ((x_mc w 6) + 1)) x n y)) (fun H locs hW hS => ?_)
          have hW : cm_Wo D dA b0 (u_ml (u_mc (u_mc (u_mc w 0 0) 8 ((x_mc w 8) + 1)) 6 ((x_mc w 6) + 1)) 7 n.toNatClampNeg (f_Model_stepped (u_mc (u_mc (u_mc w 0 0) 8 ((x_mc w 8) + 1)) 6 ((x_mc w 6) + 1)) x n y)) H := to_ml hW
          refine lv_aload_n hx hb d_Model_call_146 rfl (lv_at hl 2 rfl) ?_
          refine cd_get (ci := 4) (C := R_Model) (T := F_Model) (N := 20) (v := .ref (m_ad w 10 8)) hx hb hA i_Model hown hK hW 9 0 rfl rfl rfl 9 (by decide) mw_206 rfl rfl d_Model_call_147 ?_
          refine lv_iload_n hx hb d_Model_call_150 rfl (lv_at hl 4 rfl) ?_
          refine lv_dup2_11 hx hb d_Model_call_151 rfl rfl ?_
          refine cd_iald hx hb hK hW 10 8 (show (8 : Nat) < 11 from by decide) 0 rfl rfl (why_in c_1).2.1 d_Model_call_152 ?_
          refine lv_iconst (v := 1) hx hb d_Model_call_153 (by decide) ?_
          refine lv_iadd hx hb d_Model_call_154 ?_
          refine cd_iast hx hb hK hW hS 10 8 (show (8 : Nat) < 11 from by decide) 0 rfl rfl (why_in c_1).2.1 d_Model_call_155 (cm_ce dA (u_mi (u_ml (u_mc (u_mc (u_mc w 0 0) 8 ((x_mc w 8) + 1)) 6 ((x_mc w 6) + 1)) 7 n.toNatClampNeg (f_Model_stepped (u_mc (u_mc (u_mc w 0 0) 8 ((x_mc w 8) + 1)) 6 ((x_mc w 6) + 1)) x n y)) 8 n.toNatClampNeg ((x_mi w 8 n.toNatClampNeg) + 1))) rfl (kp_mi dA (u_ml (u_mc (u_mc (u_mc w 0 0) 8 ((x_mc w 8) + 1)) 6 ((x_mc w 6) + 1)) 7 n.toNatClampNeg (f_Model_stepped (u_mc (u_mc (u_mc w 0 0) 8 ((x_mc w 8) + 1)) 6 ((x_mc w 6) + 1)) x n y)) 8 n.toNatClampNeg ((x_mi w 8 n.toNatClampNeg) + 1)) (fun H locs hW hS => ?_)
          have hW : cm_Wo D dA b0 (u_mi (u_ml (u_mc (u_mc (u_mc w 0 0) 8 ((x_mc w 8) + 1)) 6 ((x_mc w 6) + 1)) 7 n.toNatClampNeg (f_Model_stepped (u_mc (u_mc (u_mc w 0 0) 8 ((x_mc w 8) + 1)) 6 ((x_mc w 6) + 1)) x n y)) 8 n.toNatClampNeg ((x_mi w 8 n.toNatClampNeg) + 1)) H := to_mi hW
          refine lv_lload hx hb d_Model_call_156 (lv_at hl 0 rfl) ?_
          have hf : f_Model_call w x n y = ((f_Model_answerOf (u_mc (u_mc (u_mc w 0 0) 8 ((x_mc w 8) + 1)) 6 ((x_mc w 6) + 1)) x n y), (u_mi (u_ml (u_mc (u_mc (u_mc w 0 0) 8 ((x_mc w 8) + 1)) 6 ((x_mc w 6) + 1)) 7 n.toNatClampNeg (f_Model_stepped (u_mc (u_mc (u_mc w 0 0) 8 ((x_mc w 8) + 1)) 6 ((x_mc w 6) + 1)) x n y)) 8 n.toNatClampNeg ((x_mi w 8 n.toNatClampNeg) + 1))) := by
            simp only [f_Model_call, if_pos c_1, if_pos c_2, if_neg c_3, if_pos c_4]
          exact cd_lret hx hb hr hlocks hW hS d_Model_call_158 ⟨by rw [hf], by rw [hf], by rw [hf], by rw [hf]⟩ (Nat.le_of_ble_eq_true rfl) (Nat.le_of_ble_eq_true rfl)
      · skip
        refine lv_aload_n hx hb d_Model_call_115 rfl (lv_at hl 2 rfl) ?_
        refine cd_get (ci := 4) (C := R_Model) (T := F_Model) (N := 20) (v := .ref (m_ad w 10 7)) hx hb hA i_Model hown hK hW 9 0 rfl rfl rfl 8 (by decide) mw_211 rfl rfl d_Model_call_116 ?_
        refine lv_iload_n hx hb d_Model_call_119 rfl (lv_at hl 4 rfl) ?_
        refine lv_lload_n hx hb d_Model_call_120 rfl (lv_at hl 5 rfl) ?_
        refine cd_last hx hb hK hW hS 10 7 (show (7 : Nat) < 11 from by decide) 1 rfl rfl (why_in c_1).2.1 d_Model_call_121 (cm_ce dA (u_ml (u_mc (u_mc (u_mc w 0 0) 8 ((x_mc w 8) + 1)) 6 ((x_mc w 6) + 1)) 7 n.toNatClampNeg y)) rfl (kp_ml dA (u_mc (u_mc (u_mc w 0 0) 8 ((x_mc w 8) + 1)) 6 ((x_mc w 6) + 1)) 7 n.toNatClampNeg y) (fun H locs hW hS => ?_)
        have hW : cm_Wo D dA b0 (u_ml (u_mc (u_mc (u_mc w 0 0) 8 ((x_mc w 8) + 1)) 6 ((x_mc w 6) + 1)) 7 n.toNatClampNeg y) H := to_ml hW
        refine lv_goto (tgt := 156) hx hb d_Model_call_122 (by decide) ?_
        refine lv_lload hx hb d_Model_call_156 (lv_at hl 0 rfl) ?_
        have hf : f_Model_call w x n y = ((f_Model_answerOf (u_mc (u_mc (u_mc w 0 0) 8 ((x_mc w 8) + 1)) 6 ((x_mc w 6) + 1)) x n y), (u_ml (u_mc (u_mc (u_mc w 0 0) 8 ((x_mc w 8) + 1)) 6 ((x_mc w 6) + 1)) 7 n.toNatClampNeg y)) := by
          simp only [f_Model_call, if_pos c_1, if_pos c_2, if_pos c_3]
        exact cd_lret hx hb hr hlocks hW hS d_Model_call_158 ⟨by rw [hf], by rw [hf], by rw [hf], by rw [hf]⟩ (Nat.le_of_ble_eq_true rfl) (Nat.le_of_ble_eq_true rfl)
    · skip
      refine lv_aload_n hx hb d_Model_call_46 rfl (lv_at hl 1 rfl) ?_
      refine lv_dup hx hb d_Model_call_47 rfl ?_
      refine cd_get (ci := 4) (C := R_Model) (T := F_Model) (N := 20) (v := .int (x_mc w 2)) hx hb hA i_Model hown hK hW 9 0 rfl rfl rfl 13 (by decide) mw_184 rfl rfl d_Model_call_48 ?_
      refine lv_iconst (v := 1) hx hb d_Model_call_51 (by decide) ?_
      refine lv_iadd hx hb d_Model_call_52 ?_
      refine cd_put (ci := 4) (C := R_Model) (T := F_Model) (N := 20) (v := .int ((x_mc w 2) + 1)) hx hb hA i_Model t_Model t_Model_ok n_Model hown hK hW hS 9 0 rfl rfl rfl 13 (by decide) mw_184 rfl rfl rfl rfl (Nat.le_of_ble_eq_true rfl) d_Model_call_53 (cm_ce dA (u_mc (u_mc (u_mc w 0 0) 8 ((x_mc w 8) + 1)) 2 ((x_mc w 2) + 1))) rfl (kp_mc dA (u_mc (u_mc w 0 0) 8 ((x_mc w 8) + 1)) 2 ((x_mc w 2) + 1)) (fun H locs hW hS => ?_)
      have hW : cm_Wo D dA b0 (u_mc (u_mc (u_mc w 0 0) 8 ((x_mc w 8) + 1)) 2 ((x_mc w 2) + 1)) H := to_mc hW
      refine lv_aload_n hx hb d_Model_call_56 rfl (lv_at hl 1 rfl) ?_
      refine lv_aload_n hx hb d_Model_call_57 rfl (lv_at hl 1 rfl) ?_
      refine cd_get (ci := 4) (C := R_Model) (T := F_Model) (N := 20) (v := .ref (m_ad w 10 5)) hx hb hA i_Model hown hK hW 9 0 rfl rfl rfl 6 (by decide) mw_183 rfl rfl d_Model_call_58 ?_
      refine lv_iload_n hx hb d_Model_call_61 rfl (lv_at hl 2 rfl) ?_
      refine cd_iald hx hb hK hW 10 5 (show (5 : Nat) < 11 from by decide) 0 rfl rfl (why_in c_1).1 d_Model_call_62 ?_
      refine cd_put (ci := 4) (C := R_Model) (T := F_Model) (N := 20) (v := .int (x_mi w 5 x.toNatClampNeg)) hx hb hA i_Model t_Model t_Model_ok n_Model hown hK hW hS 9 0 rfl rfl rfl 14 (by decide) mw_185 rfl rfl rfl rfl (Nat.le_of_ble_eq_true rfl) d_Model_call_63 (cm_ce dA (u_mc (u_mc (u_mc (u_mc w 0 0) 8 ((x_mc w 8) + 1)) 2 ((x_mc w 2) + 1)) 3 (x_mi w 5 x.toNatClampNeg))) rfl (kp_mc dA (u_mc (u_mc (u_mc w 0 0) 8 ((x_mc w 8) + 1)) 2 ((x_mc w 2) + 1)) 3 (x_mi w 5 x.toNatClampNeg)) (fun H locs hW hS => ?_)
      have hW : cm_Wo D dA b0 (u_mc (u_mc (u_mc (u_mc w 0 0) 8 ((x_mc w 8) + 1)) 2 ((x_mc w 2) + 1)) 3 (x_mi w 5 x.toNatClampNeg)) H := to_mc hW
      refine lv_aload_n hx hb d_Model_call_66 rfl (lv_at hl 1 rfl) ?_
      refine lv_iload_n hx hb d_Model_call_67 rfl (lv_at hl 2 rfl) ?_
      refine cd_put (ci := 4) (C := R_Model) (T := F_Model) (N := 20) (v := .int x) hx hb hA i_Model t_Model t_Model_ok n_Model hown hK hW hS 9 0 rfl rfl rfl 15 (by decide) mw_186 rfl rfl rfl rfl (Nat.le_of_ble_eq_true rfl) d_Model_call_68 (cm_ce dA (u_mc (u_mc (u_mc (u_mc (u_mc w 0 0) 8 ((x_mc w 8) + 1)) 2 ((x_mc w 2) + 1)) 3 (x_mi w 5 x.toNatClampNeg)) 4 x)) rfl (kp_mc dA (u_mc (u_mc (u_mc (u_mc w 0 0) 8 ((x_mc w 8) + 1)) 2 ((x_mc w 2) + 1)) 3 (x_mi w 5 x.toNatClampNeg)) 4 x) (fun H locs hW hS => ?_)
      have hW : cm_Wo D dA b0 (u_mc (u_mc (u_mc (u_mc (u_mc w 0 0) 8 ((x_mc w 8) + 1)) 2 ((x_mc w 2) + 1)) 3 (x_mi w 5 x.toNatClampNeg)) 4 x) H := to_mc hW
      refine lv_aload_n hx hb d_Model_call_71 rfl (lv_at hl 1 rfl) ?_
      refine lv_iload_n hx hb d_Model_call_72 rfl (lv_at hl 3 rfl) ?_
      refine cd_put (ci := 4) (C := R_Model) (T := F_Model) (N := 20) (v := .int n) hx hb hA i_Model t_Model t_Model_ok n_Model hown hK hW hS 9 0 rfl rfl rfl 16 (by decide) mw_187 rfl rfl rfl rfl (Nat.le_of_ble_eq_true rfl) d_Model_call_73 (cm_ce dA (u_mc (u_mc (u_mc (u_mc (u_mc (u_mc w 0 0) 8 ((x_mc w 8) + 1)) 2 ((x_mc w 2) + 1)) 3 (x_mi w 5 x.toNatClampNeg)) 4 x) 5 n)) rfl (kp_mc dA (u_mc (u_mc (u_mc (u_mc (u_mc w 0 0) 8 ((x_mc w 8) + 1)) 2 ((x_mc w 2) + 1)) 3 (x_mi w 5 x.toNatClampNeg)) 4 x) 5 n) (fun H locs hW hS => ?_)
      have hW : cm_Wo D dA b0 (u_mc (u_mc (u_mc (u_mc (u_mc (u_mc w 0 0) 8 ((x_mc w 8) + 1)) 2 ((x_mc w 2) + 1)) 3 (x_mi w 5 x.toNatClampNeg)) 4 x) 5 n) H := to_mc hW
      refine lv_ldc2 (v := (-100)) hx hb hown (hA _ mw_228) d_Model_call_76 ?_
      refine lv_aload_n hx hb d_Model_call_79 rfl (lv_at hl 1 rfl) ?_
      refine cd_get (ci := 4) (C := R_Model) (T := F_Model) (N := 20) (v := .ref (m_ad w 10 5)) hx hb hA i_Model hown hK hW 9 0 rfl rfl rfl 6 (by decide) mw_183 rfl rfl d_Model_call_80 ?_
      refine lv_iload_n hx hb d_Model_call_83 rfl (lv_at hl 2 rfl) ?_
      refine cd_iald hx hb hK hW 10 5 (show (5 : Nat) < 11 from by decide) 0 rfl rfl (why_in c_1).1 d_Model_call_84 ?_
      refine lv_i2l hx hb d_Model_call_85 rfl ?_
      refine lv_lsub hx hb d_Model_call_86 ?_
      have hf : f_Model_call w x n y = (((-100) - ((x_mi w 5 x.toNatClampNeg).toInt64)), (u_mc (u_mc (u_mc (u_mc (u_mc (u_mc w 0 0) 8 ((x_mc w 8) + 1)) 2 ((x_mc w 2) + 1)) 3 (x_mi w 5 x.toNatClampNeg)) 4 x) 5 n)) := by
        simp only [f_Model_call, if_pos c_1, if_neg c_2]
      exact cd_lret hx hb hr hlocks hW hS d_Model_call_87 ⟨by rw [hf], by rw [hf], by rw [hf], by rw [hf]⟩ (Nat.le_of_ble_eq_true rfl) (Nat.le_of_ble_eq_true rfl)
  · skip
    refine lv_aload_n hx hb d_Model_call_19 rfl (lv_at hl 1 rfl) ?_
    refine lv_iload hx hb d_Model_call_20 (lv_at hl 0 rfl) ?_
    refine cm_cV (w0 := (f_Model_refuse (u_mc w 0 0) (f_Model_why (u_mc w 0 0) x n y)).2) (x0 := .int ((f_Model_refuse (u_mc w 0 0) (f_Model_why (u_mc w 0 0) x n y)).1)) (rest := []) (n := 1) ⟨hx, hb, hml, hown, hA⟩ (cd_GA mw_173) hE hb0 hW hS 9 0 rfl rfl rfl (c_Model_refuse l D dA b0 (u_mc w 0 0) (f_Model_why (u_mc w 0 0) x n y)) mw_177 mw_175 mw_176 mw_174 (by decide +kernel) rfl rfl ⟨by decide, by decide⟩ rfl hl.1 rfl (Nat.le_of_ble_eq_true rfl) d_Model_call_22 ⟨by decide, by decide⟩ (fun H locs hW hS => ?_)
    refine lv_i2l hx hb d_Model_call_25 rfl ?_
    have hf : f_Model_call w x n y = (((f_Model_refuse (u_mc w 0 0) (f_Model_why (u_mc w 0 0) x n y)).1).toInt64, (f_Model_refuse (u_mc w 0 0) (f_Model_why (u_mc w 0 0) x n y)).2) := by
      simp only [f_Model_call, if_neg c_1]
    exact cd_lret hx hb hr hlocks hW hS d_Model_call_26 ⟨by rw [hf], by rw [hf], by rw [hf], by rw [hf]⟩ (Nat.le_of_ble_eq_true rfl) (Nat.le_of_ble_eq_true rfl)

def f_Model_again (w : cm_W) (x : Int32) (n : Int32) (y : Int64) : Int64 × cm_W := if (x_mc w 8) ≤ 128 then (if (f_Model_why (u_mc w 0 0) x n y) = 0 then (if (x_mi w 5 x.toNatClampNeg) ≤ 0 then ((f_Model_answerOf (u_mc w 0 0) x n y), (u_mc w 0 0)) else (((-100) - ((x_mi w 5 x.toNatClampNeg).toInt64)), (u_mc w 0 0))) else ((f_Model_why (u_mc w 0 0) x n y).toInt64, (u_mc w 0 0))) else ((-4), (u_mc w 0 0))
set_option maxHeartbeats 4000000 in
set_option maxRecDepth 100000 in
theorem c_Model_again (l : Launch) (D : va_G) (dA : Nat → ClassId) (b0 : Nat) (w : cm_W) (x : Int32) (n : Int32) (y : Int64) : cd_Ct l D (cx_tys dA) b0 y_Model_again (.code y_Model_again b_Model_again 6 (some .long) :: cd_WA) { frames := 2, cells := 0, slots := 0, locals := 48 } [.ref (m_ad w 9 0), .int x, .int n, .long y] (cm_dm w) (m_ad w) (cm_ce dA w) (cm_R dA (some (.long (f_Model_again w x n y).1)) (f_Model_again w x n y).2) 0 0 := by
  refine cd_Ct.of b_Model_again 6 (some .long) (by decide) rfl ?_
  intro p e s m below meth c hx hb hr hml hown hlocks hnm hA hE hb0 hW hS ls hl
  have hK := hE.1
  have hl : lv_has ls 6 [(0, .ref (m_ad w 9 0)), (1, .int x), (2, .int n), (3, .long y)] := hl
  refine lv_aload_n hx hb d_Model_again_0 rfl (lv_at hl 0 rfl) ?_
  refine lv_iconst (v := 0) hx hb d_Model_again_1 (by decide) ?_
  refine cd_put (ci := 4) (C := R_Model) (T := F_Model) (N := 20) (v := .int 0) hx hb hA i_Model t_Model t_Model_ok n_Model hown hK hW hS 9 0 rfl rfl rfl 0 (by decide) mw_172 rfl rfl rfl rfl (Nat.le_of_ble_eq_true rfl) d_Model_again_2 (cm_ce dA (u_mc w 0 0)) rfl (kp_mc dA w 0 0) (fun H locs hW hS => ?_)
  have hW : cm_Wo D dA b0 (u_mc w 0 0) H := to_mc hW
  refine lv_aload_n hx hb d_Model_again_5 rfl (lv_at hl 0 rfl) ?_
  refine cd_get (ci := 4) (C := R_Model) (T := F_Model) (N := 20) (v := .int (x_mc w 8)) hx hb hA i_Model hown hK hW 9 0 rfl rfl rfl 19 (by decide) mw_182 rfl rfl d_Model_again_6 ?_
  refine lv_sipush (v := 128) hx hb d_Model_again_9 (by decide) ?_
  refine lv_icmp_le (tgt := 19) hx hb d_Model_again_12 (by decide) (fun c_1 => ?_) (fun c_1 => ?_)
  · skip
    refine lv_aload_n hx hb d_Model_again_19 rfl (lv_at hl 0 rfl) ?_
    refine lv_iload_n hx hb d_Model_again_20 rfl (lv_at hl 1 rfl) ?_
    refine lv_iload_n hx hb d_Model_again_21 rfl (lv_at hl 2 rfl) ?_
    refine lv_lload_n hx hb d_Model_again_22 rfl (lv_at hl 3 rfl) ?_
    refine cm_cV (w0 := (u_mc w 0 0)) (x0 := .int (f_Model_why (u_mc w 0 0) x n y)) (rest := []) (n := 3) ⟨hx, hb, hml, hown, hA⟩ (cd_GA mw_216) hE hb0 hW hS 9 0 rfl rfl rfl (c_Model_why l D dA b0 (u_mc w 0 0) x n y) mw_219 mw_217 mw_218 mw_174 (by decide +kernel) rfl rfl ⟨by decide, by decide⟩ rfl hl.1 rfl (Nat.le_of_ble_eq_true rfl) d_Model_again_23 ⟨by decide, by decide⟩ (fun H locs hW hS => ?_)
    refine lv_istore (lv' := [(5, .int (f_Model_why (u_mc w 0 0) x n y)), (0, .ref (m_ad w 9 0)), (1, .int x), (2, .int n), (3, .long y)]) hx hb d_Model_again_26 hl (by decide) rfl (fun ls hl => ?_)
    refine lv_iload hx hb d_Model_again_28 (lv_at hl 0 rfl) ?_
    refine lv_if_eq (tgt := 39) hx hb d_Model_again_30 (by decide) (fun c_2 => ?_) (fun c_2 => ?_)
    · skip
      refine lv_aload_n hx hb d_Model_again_39 rfl (lv_at hl 1 rfl) ?_
      refine cd_get (ci := 4) (C := R_Model) (T := F_Model) (N := 20) (v := .ref (m_ad w 10 5)) hx hb hA i_Model hown hK hW 9 0 rfl rfl rfl 6 (by decide) mw_183 rfl rfl d_Model_again_40 ?_
      refine lv_iload_n hx hb d_Model_again_43 rfl (lv_at hl 2 rfl) ?_
      refine cd_iald hx hb hK hW 10 5 (show (5 : Nat) < 11 from by decide) 0 rfl rfl (why_in c_2).1 d_Model_again_44 ?_
      refine lv_if_le (tgt := 62) hx hb d_Model_again_45 (by decide) (fun c_3 => ?_) (fun c_3 => ?_)
      · skip
        refine lv_aload_n hx hb d_Model_again_62 rfl (lv_at hl 1 rfl) ?_
        refine lv_iload_n hx hb d_Model_again_63 rfl (lv_at hl 2 rfl) ?_
        refine lv_iload_n hx hb d_Model_again_64 rfl (lv_at hl 3 rfl) ?_
        refine lv_lload_n hx hb d_Model_again_65 rfl (lv_at hl 4 rfl) ?_
        refine cm_cV (w0 := (u_mc w 0 0)) (x0 := .long (f_Model_answerOf (u_mc w 0 0) x n y)) (rest := []) (n := 3) ⟨hx, hb, hml, hown, hA⟩ (cd_GA mw_220) hE hb0 hW hS 9 0 rfl rfl rfl (c_Model_answerOf l D dA b0 (u_mc w 0 0) x n y (why_in c_2).1 (why_in c_2).2.1 (why_in c_2).2.2) mw_223 mw_221 mw_222 mw_174 (by decide +kernel) rfl rfl ⟨by decide, by decide⟩ rfl hl.1 rfl (Nat.le_of_ble_eq_true rfl) d_Model_again_66 ⟨by decide, by decide⟩ (fun H locs hW hS => ?_)
        have hf : f_Model_again w x n y = ((f_Model_answerOf (u_mc w 0 0) x n y), (u_mc w 0 0)) := by
          simp only [f_Model_again, if_pos c_1, if_pos c_2, if_pos c_3]
        exact cd_lret hx hb hr hlocks hW hS d_Model_again_69 ⟨by rw [hf], by rw [hf], by rw [hf], by rw [hf]⟩ (Nat.le_of_ble_eq_true rfl) (Nat.le_of_ble_eq_true rfl)
      · skip
        refine lv_ldc2 (v := (-100)) hx hb hown (hA _ mw_228) d_Model_again_48 ?_
        refine lv_aload_n hx hb d_Model_again_51 rfl (lv_at hl 1 rfl) ?_
        refine cd_get (ci := 4) (C := R_Model) (T := F_Model) (N := 20) (v := .ref (m_ad w 10 5)) hx hb hA i_Model hown hK hW 9 0 rfl rfl rfl 6 (by decide) mw_183 rfl rfl d_Model_again_52 ?_
        refine lv_iload_n hx hb d_Model_again_55 rfl (lv_at hl 2 rfl) ?_
        refine cd_iald hx hb hK hW 10 5 (show (5 : Nat) < 11 from by decide) 0 rfl rfl (why_in c_2).1 d_Model_again_56 ?_
        refine lv_i2l hx hb d_Model_again_57 rfl ?_
        refine lv_lsub hx hb d_Model_again_58 ?_
        refine lv_goto (tgt := 69) hx hb d_Model_again_59 (by decide) ?_
        have hf : f_Model_again w x n y = (((-100) - ((x_mi w 5 x.toNatClampNeg).toInt64)), (u_mc w 0 0)) := by
          simp only [f_Model_again, if_pos c_1, if_pos c_2, if_neg c_3]
        exact cd_lret hx hb hr hlocks hW hS d_Model_again_69 ⟨by rw [hf], by rw [hf], by rw [hf], by rw [hf]⟩ (Nat.le_of_ble_eq_true rfl) (Nat.le_of_ble_eq_true rfl)
    · skip
      refine lv_iload hx hb d_Model_again_33 (lv_at hl 0 rfl) ?_
      refine lv_i2l hx hb d_Model_again_35 rfl ?_
      refine lv_goto (tgt := 69) hx hb d_Model_again_36 (by decide) ?_
      have hf : f_Model_again w x n y = ((f_Model_why (u_mc w 0 0) x n y).toInt64, (u_mc w 0 0)) := by
        simp only [f_Model_again, if_pos c_1, if_neg c_2]
      exact cd_lret hx hb hr hlocks hW hS d_Model_again_69 ⟨by rw [hf], by rw [hf], by rw [hf], by rw [hf]⟩ (Nat.le_of_ble_eq_true rfl) (Nat.le_of_ble_eq_true rfl)
  · skip
    refine lv_ldc2 (v := (-4)) hx hb hown (hA _ mw_229) d_Model_again_15 ?_
    have hf : f_Model_again w x n y = ((-4), (u_mc w 0 0)) := by
      simp only [f_Model_again, if_neg c_1]
    exact cd_lret hx hb hr hlocks hW hS d_Model_again_18 ⟨by rw [hf], by rw [hf], by rw [hf], by rw [hf]⟩ (Nat.le_of_ble_eq_true rfl) (Nat.le_of_ble_eq_true rfl)

def f_Model_make0 (w : cm_W)  : Int32 × cm_W := if (x_mi w 3 0) = 0 then ((f_Model_refuse (u_mc w 0 0) (-3)).1, (f_Model_refuse (u_mc w 0 0) (-3)).2) else if (x_mi w 10 0) = 20 then ((f_Model_refuse (u_mc w 0 0) (-4)).1, (f_Model_refuse (u_mc w 0 0) (-4)).2) else (((64 * 0) + ((x_mi w 10 0) + 1)), (u_mc (u_mc (u_mi (u_mi (u_ml (u_mi (u_mi (u_mi (u_mc w 0 0) 3 0 0) 10 0 ((x_mi w 10 0) + 1)) 6 (((64 * 0) + ((x_mi w 10 0) + 1)).toNatClampNeg) 1) 7 (((64 * 0) + ((x_mi w 10 0) + 1)).toNatClampNeg) (f_Model_stateOfLetters (u_mc w 0 0) (x_mi w 3 0).toNatClampNeg)) 8 (((64 * 0) + ((x_mi w 10 0) + 1)).toNatClampNeg) 0) 9 (((64 * 0) + ((x_mi w 10 0) + 1)).toNatClampNeg) (-1)) 7 ((x_mc w 7) + 1)) 8 ((x_mc w 8) + 1)))
set_option maxHeartbeats 4000000 in
set_option maxRecDepth 100000 in
theorem c_Model_make0 (l : Launch) (D : va_G) (dA : Nat → ClassId) (b0 : Nat) (w : cm_W) (hco : ∀ t, t < 3 → ∃ c, c ≤ 200 ∧ x_mi w 3 t = nI c) (hma : ∀ k, k < 6 → ∃ c, c ≤ 20 ∧ x_mi w 10 k = nI c) : cd_Ct l D (cx_tys dA) b0 y_Model_make (.code y_Model_make b_Model_make 7 (some .int) :: cd_WA) { frames := 1, cells := 0, slots := 0, locals := 25 } [.ref (m_ad w 9 0), .int 0] (cm_dm w) (m_ad w) (cm_ce dA w) (cm_R dA (some (.int (f_Model_make0 w).1)) (f_Model_make0 w).2) 0 0 := by
  refine cd_Ct.of b_Model_make 7 (some .int) (by decide) rfl ?_
  intro p e s m below meth c hx hb hr hml hown hlocks hnm hA hE hb0 hW hS ls hl
  have hK := hE.1
  have hl : lv_has ls 7 [(0, .ref (m_ad w 9 0)), (1, .int 0)] := hl
  refine lv_aload_n hx hb d_Model_make_0 rfl (lv_at hl 0 rfl) ?_
  refine lv_iconst (v := 0) hx hb d_Model_make_1 (by decide) ?_
  refine cd_put (ci := 4) (C := R_Model) (T := F_Model) (N := 20) (v := .int 0) hx hb hA i_Model t_Model t_Model_ok n_Model hown hK hW hS 9 0 rfl rfl rfl 0 (by decide) mw_172 rfl rfl rfl rfl (Nat.le_of_ble_eq_true rfl) d_Model_make_2 (cm_ce dA (u_mc w 0 0)) rfl (kp_mc dA w 0 0) (fun H locs hW hS => ?_)
  have hW : cm_Wo D dA b0 (u_mc w 0 0) H := to_mc hW
  refine lv_iload_n hx hb d_Model_make_5 rfl (lv_at hl 1 rfl) ?_
  refine lv_if_lt (tgt := 14) hx hb d_Model_make_6 (by decide) (fun c_1 => absurd c_1 (by decide)) (fun _ => ?_)
  refine lv_iload_n hx hb d_Model_make_9 rfl (lv_at hl 1 rfl) ?_
  refine lv_iconst (v := 5) hx hb d_Model_make_10 (by decide) ?_
  refine lv_icmp_le (tgt := 20) hx hb d_Model_make_11 (by decide) (fun _ => ?_) (fun c_2 => absurd (by decide) c_2)
  refine lv_iload_n hx hb d_Model_make_20 rfl (lv_at hl 1 rfl) ?_
  refine lv_if_ne (tgt := 28) hx hb d_Model_make_21 (by decide) (fun c_3 => absurd (by decide) c_3) (fun _ => ?_)
  refine lv_iconst (v := 0) hx hb d_Model_make_24 (by decide) ?_
  refine lv_goto (tgt := 47) hx hb d_Model_make_25 (by decide) ?_
  refine lv_istore_n (lv' := [(2, .int 0), (0, .ref (m_ad w 9 0)), (1, .int 0)]) hx hb d_Model_make_47 rfl hl (by decide) rfl (fun ls hl => ?_)
  refine lv_iload_n hx hb d_Model_make_48 rfl (lv_at hl 2 rfl) ?_
  refine lv_iconst (v := 1) hx hb d_Model_make_49 (by decide) ?_
  refine lv_icmp_ne (tgt := 61) hx hb d_Model_make_50 (by decide) (fun _ => ?_) (fun c_4 => absurd c_4 (by decide))
  refine lv_iload_n hx hb d_Model_make_61 rfl (lv_at hl 2 rfl) ?_
  refine lv_iconst (v := 3) hx hb d_Model_make_62 (by decide) ?_
  refine lv_icmp_eq (tgt := 71) hx hb d_Model_make_63 (by decide) (fun c_5 => absurd c_5 (by decide)) (fun _ => ?_)
  refine lv_iload_n hx hb d_Model_make_66 rfl (lv_at hl 2 rfl) ?_
  refine lv_iconst (v := 5) hx hb d_Model_make_67 (by decide) ?_
  refine lv_icmp_ne (tgt := 79) hx hb d_Model_make_68 (by decide) (fun _ => ?_) (fun c_6 => absurd c_6 (by decide))
  refine lv_iconst (v := (-1)) hx hb d_Model_make_79 (by decide) ?_
  refine lv_istore_n (lv' := [(3, .int (-1)), (2, .int 0), (0, .ref (m_ad w 9 0)), (1, .int 0)]) hx hb d_Model_make_80 rfl hl (by decide) rfl (fun ls hl => ?_)
  refine lv_iload_n hx hb d_Model_make_81 rfl (lv_at hl 1 rfl) ?_
  refine lv_if_lt (tgt := 97) hx hb d_Model_make_82 (by decide) (fun c_7 => absurd c_7 (by decide)) (fun _ => ?_)
  refine lv_aload_n hx hb d_Model_make_85 rfl (lv_at hl 2 rfl) ?_
  refine cd_get (ci := 4) (C := R_Model) (T := F_Model) (N := 20) (v := .ref (m_ad w 10 3)) hx hb hA i_Model hown hK hW 9 0 rfl rfl rfl 4 (by decide) mw_190 rfl rfl d_Model_make_86 ?_
  refine lv_iload_n hx hb d_Model_make_89 rfl (lv_at hl 1 rfl) ?_
  refine cd_iald hx hb hK hW 10 3 (show (3 : Nat) < 11 from by decide) 0 rfl rfl (vp_in_nI (n := 0) (by decide) (by decide)) d_Model_make_90 ?_
  rw [show ((0 : Int32)).toNatClampNeg = 0 by decide]
  refine lv_if_ne (tgt := 108) hx hb d_Model_make_91 (by decide) (fun c_8 => ?_) (fun c_8 => ?_)
  · skip
    refine lv_aload_n hx hb d_Model_make_108 rfl (lv_at hl 2 rfl) ?_
    refine cd_get (ci := 4) (C := R_Model) (T := F_Model) (N := 20) (v := .ref (m_ad w 10 10)) hx hb hA i_Model hown hK hW 9 0 rfl rfl rfl 11 (by decide) mw_230 rfl rfl d_Model_make_109 ?_
    refine lv_iload_n hx hb d_Model_make_112 rfl (lv_at hl 3 rfl) ?_
    refine cd_iald hx hb hK hW 10 10 (show (10 : Nat) < 11 from by decide) 0 rfl rfl (vp_in_nI (n := 0) (by decide) (by decide)) d_Model_make_113 ?_
    rw [show ((0 : Int32)).toNatClampNeg = 0 by decide]
    refine lv_bipush (v := 20) hx hb d_Model_make_114 (by decide) ?_
    refine lv_icmp_ne (tgt := 126) hx hb d_Model_make_116 (by decide) (fun c_9 => ?_) (fun c_9 => ?_)
    · skip
      refine lv_iload_n hx hb d_Model_make_126 rfl (lv_at hl 3 rfl) ?_
      refine lv_if_ne (tgt := 137) hx hb d_Model_make_127 (by decide) (fun c_10 => absurd (by decide) c_10) (fun _ => ?_)
      refine lv_aload_n hx hb d_Model_make_130 rfl (lv_at hl 2 rfl) ?_
      refine cm_cV (w0 := (u_mc w 0 0)) (x0 := .long (f_Model_stateOfLetters (u_mc w 0 0) (x_mi w 3 0).toNatClampNeg)) (rest := []) (n := 0) ⟨hx, hb, hml, hown, hA⟩ (cd_GA mw_231) hE hb0 hW hS 9 0 rfl rfl rfl (c_Model_stateOfLetters l D dA b0 (u_mc w 0 0) (x_mi w 3 0).toNatClampNeg (cm_cl (hco 0 (by decide))).1 (cm_cl (hco 0 (by decide))).2) mw_234 mw_232 mw_233 mw_174 (by decide +kernel) rfl rfl ⟨by decide, by decide⟩ rfl hl.1 rfl (Nat.le_of_ble_eq_true rfl) d_Model_make_131 ⟨by decide, by decide⟩ (fun H locs hW hS => ?_)
      refine lv_goto (tgt := 190) hx hb d_Model_make_134 (by decide) ?_
      refine lv_lstore (lv' := [(4, .long (f_Model_stateOfLetters (u_mc w 0 0) (x_mi w 3 0).toNatClampNeg)), (3, .int (-1)), (2, .int 0), (0, .ref (m_ad w 9 0)), (1, .int 0)]) hx hb d_Model_make_190 hl (by decide) rfl (fun ls hl => ?_)
      refine lv_iload_n hx hb d_Model_make_192 rfl (lv_at hl 2 rfl) ?_
      refine lv_if_lt (tgt := 203) hx hb d_Model_make_193 (by decide) (fun c_11 => absurd c_11 (by decide)) (fun _ => ?_)
      refine lv_aload_n hx hb d_Model_make_196 rfl (lv_at hl 3 rfl) ?_
      refine cd_get (ci := 4) (C := R_Model) (T := F_Model) (N := 20) (v := .ref (m_ad w 10 3)) hx hb hA i_Model hown hK hW 9 0 rfl rfl rfl 4 (by decide) mw_190 rfl rfl d_Model_make_197 ?_
      refine lv_iload_n hx hb d_Model_make_200 rfl (lv_at hl 2 rfl) ?_
      refine lv_iconst (v := 0) hx hb d_Model_make_201 (by decide) ?_
      refine cd_iast hx hb hK hW hS 10 3 (show (3 : Nat) < 11 from by decide) 0 rfl rfl (vp_in_nI (n := 0) (by decide) (by decide)) d_Model_make_202 (cm_ce dA (u_mi (u_mc w 0 0) 3 0 0)) (by rw [show ((0 : Int32)).toNatClampNeg = 0 by decide]; rfl) (kp_mi dA (u_mc w 0 0) 3 0 0) (fun H locs hW hS => ?_)
      have hW : cm_Wo D dA b0 (u_mi (u_mc w 0 0) 3 0 0) H := to_mi hW
      refine lv_aload_n hx hb d_Model_make_203 rfl (lv_at hl 3 rfl) ?_
      refine cd_get (ci := 4) (C := R_Model) (T := F_Model) (N := 20) (v := .ref (m_ad w 10 10)) hx hb hA i_Model hown hK hW 9 0 rfl rfl rfl 11 (by decide) mw_230 rfl rfl d_Model_make_204 ?_
      refine lv_iload_n hx hb d_Model_make_207 rfl (lv_at hl 4 rfl) ?_
      refine lv_dup2_11 hx hb d_Model_make_208 rfl rfl ?_
      refine cd_iald hx hb hK hW 10 10 (show (10 : Nat) < 11 from by decide) 0 rfl rfl (vp_in_nI (n := 0) (by decide) (by decide)) d_Model_make_209 ?_
      rw [show ((0 : Int32)).toNatClampNeg = 0 by decide]
      refine lv_iconst (v := 1) hx hb d_Model_make_210 (by decide) ?_
      refine lv_iadd hx hb d_Model_make_211 ?_
      refine cd_iast hx hb hK hW hS 10 10 (show (10 : Nat) < 11 from by decide) 0 rfl rfl (vp_in_nI (n := 0) (by decide) (by decide)) d_Model_make_212 (cm_ce dA (u_mi (u_mi (u_mc w 0 0) 3 0 0) 10 0 ((x_mi w 10 0) + 1))) (by rw [show ((0 : Int32)).toNatClampNeg = 0 by decide]; rfl) (kp_mi dA (u_mi (u_mc w 0 0) 3 0 0) 10 0 ((x_mi w 10 0) + 1)) (fun H locs hW hS => ?_)
      have hW : cm_Wo D dA b0 (u_mi (u_mi (u_mc w 0 0) 3 0 0) 10 0 ((x_mi w 10 0) + 1)) H := to_mi hW
      refine lv_bipush (v := 64) hx hb d_Model_make_213 (by decide) ?_
      refine lv_iload_n hx hb d_Model_make_215 rfl (lv_at hl 4 rfl) ?_
      refine lv_imul hx hb d_Model_make_216 ?_
      refine lv_aload_n hx hb d_Model_make_217 rfl (lv_at hl 3 rfl) ?_
      refine cd_get (ci := 4) (C := R_Model) (T := F_Model) (N := 20) (v := .ref (m_ad w 10 10)) hx hb hA i_Model hown hK hW 9 0 rfl rfl rfl 11 (by decide) mw_230 rfl rfl d_Model_make_218 ?_
      refine lv_iload_n hx hb d_Model_make_221 rfl (lv_at hl 4 rfl) ?_
      refine cd_iald hx hb hK hW 10 10 (show (10 : Nat) < 11 from by decide) 0 rfl rfl (vp_in_nI (n := 0) (by decide) (by decide)) d_Model_make_222 ?_
      rw [show ((0 : Int32)).toNatClampNeg = 0 by decide]
      refine lv_iadd hx hb d_Model_make_223 ?_
      refine lv_istore (lv' := [(6, .int ((64 * 0) + ((x_mi w 10 0) + 1))), (4, .long (f_Model_stateOfLetters (u_mc w 0 0) (x_mi w 3 0).toNatClampNeg)), (3, .int (-1)), (2, .int 0), (0, .ref (m_ad w 9 0)), (1, .int 0)]) hx hb d_Model_make_224 hl (by decide) rfl (fun ls hl => ?_)
      refine lv_aload_n hx hb d_Model_make_226 rfl (lv_at hl 4 rfl) ?_
      refine cd_get (ci := 4) (C := R_Model) (T := F_Model) (N := 20) (v := .ref (m_ad w 10 6)) hx hb hA i_Model hown hK hW 9 0 rfl rfl rfl 7 (by decide) mw_191 rfl rfl d_Model_make_227 ?_
      refine lv_iload hx hb d_Model_make_230 (lv_at hl 0 rfl) ?_
      refine lv_iconst (v := 1) hx hb d_Model_make_232 (by decide) ?_
      refine cd_zast hx hb hK hW hS 10 6 (show (6 : Nat) < 11 from by decide) 4 rfl rfl (cm_mk (k := 0) (by decide) hma c_9) d_Model_make_233 (cm_ce dA (u_mi (u_mi (u_mi (u_mc w 0 0) 3 0 0) 10 0 ((x_mi w 10 0) + 1)) 6 (((64 * 0) + ((x_mi w 10 0) + 1)).toNatClampNeg) 1)) (by rw [show vp_nar .boolean 1 = 1 by decide]; rfl) (kp_mi dA (u_mi (u_mi (u_mc w 0 0) 3 0 0) 10 0 ((x_mi w 10 0) + 1)) 6 (((64 * 0) + ((x_mi w 10 0) + 1)).toNatClampNeg) 1) (fun H locs hW hS => ?_)
      have hW : cm_Wo D dA b0 (u_mi (u_mi (u_mi (u_mc w 0 0) 3 0 0) 10 0 ((x_mi w 10 0) + 1)) 6 (((64 * 0) + ((x_mi w 10 0) + 1)).toNatClampNeg) 1) H := to_mi hW
      refine lv_aload_n hx hb d_Model_make_234 rfl (lv_at hl 4 rfl) ?_
      refine cd_get (ci := 4) (C := R_Model) (T := F_Model) (N := 20) (v := .ref (m_ad w 10 7)) hx hb hA i_Model hown hK hW 9 0 rfl rfl rfl 8 (by decide) mw_211 rfl rfl d_Model_make_235 ?_
      refine lv_iload hx hb d_Model_make_238 (lv_at hl 0 rfl) ?_
      refine lv_lload hx hb d_Model_make_240 (lv_at hl 1 rfl) ?_
      refine cd_last hx hb hK hW hS 10 7 (show (7 : Nat) < 11 from by decide) 1 rfl rfl (cm_mk (k := 0) (by decide) hma c_9) d_Model_make_242 (cm_ce dA (u_ml (u_mi (u_mi (u_mi (u_mc w 0 0) 3 0 0) 10 0 ((x_mi w 10 0) + 1)) 6 (((64 * 0) + ((x_mi w 10 0) + 1)).toNatClampNeg) 1) 7 (((64 * 0) + ((x_mi w 10 0) + 1)).toNatClampNeg) (f_Model_stateOfLetters (u_mc w 0 0) (x_mi w 3 0).toNatClampNeg))) rfl (kp_ml dA (u_mi (u_mi (u_mi (u_mc w 0 0) 3 0 0) 10 0 ((x_mi w 10 0) + 1)) 6 (((64 * 0) + ((x_mi w 10 0) + 1)).toNatClampNeg) 1) 7 (((64 * 0) + ((x_mi w 10 0) + 1)).toNatClampNeg) (f_Model_stateOfLetters (u_mc w 0 0) (x_mi w 3 0).toNatClampNeg)) (fun H locs hW hS => ?_)
      have hW : cm_Wo D dA b0 (u_ml (u_mi (u_mi (u_mi (u_mc w 0 0) 3 0 0) 10 0 ((x_mi w 10 0) + 1)) 6 (((64 * 0) + ((x_mi w 10 0) + 1)).toNatClampNeg) 1) 7 (((64 * 0) + ((x_mi w 10 0) + 1)).toNatClampNeg) (f_Model_stateOfLetters (u_mc w 0 0) (x_mi w 3 0).toNatClampNeg)) H := to_ml hW
      refine lv_aload_n hx hb d_Model_make_243 rfl (lv_at hl 4 rfl) ?_
      refine cd_get (ci := 4) (C := R_Model) (T := F_Model) (N := 20) (v := .ref (m_ad w 10 8)) hx hb hA i_Model hown hK hW 9 0 rfl rfl rfl 9 (by decide) mw_206 rfl rfl d_Model_make_244 ?_
      refine lv_iload hx hb d_Model_make_247 (lv_at hl 0 rfl) ?_
      refine lv_iconst (v := 0) hx hb d_Model_make_249 (by decide) ?_
      refine cd_iast hx hb hK hW hS 10 8 (show (8 : Nat) < 11 from by decide) 0 rfl rfl (cm_mk (k := 0) (by decide) hma c_9) d_Model_make_250 (cm_ce dA (u_mi (u_ml (u_mi (u_mi (u_mi (u_mc w 0 0) 3 0 0) 10 0 ((x_mi w 10 0) + 1)) 6 (((64 * 0) + ((x_mi w 10 0) + 1)).toNatClampNeg) 1) 7 (((64 * 0) + ((x_mi w 10 0) + 1)).toNatClampNeg) (f_Model_stateOfLetters (u_mc w 0 0) (x_mi w 3 0).toNatClampNeg)) 8 (((64 * 0) + ((x_mi w 10 0) + 1)).toNatClampNeg) 0)) rfl (kp_mi dA (u_ml (u_mi (u_mi (u_mi (u_mc w 0 0) 3 0 0) 10 0 ((x_mi w 10 0) + 1)) 6 (((64 * 0) + ((x_mi w 10 0) + 1)).toNatClampNeg) 1) 7 (((64 * 0) + ((x_mi w 10 0) + 1)).toNatClampNeg) (f_Model_stateOfLetters (u_mc w 0 0) (x_mi w 3 0).toNatClampNeg)) 8 (((64 * 0) + ((x_mi w 10 0) + 1)).toNatClampNeg) 0) (fun H locs hW hS => ?_)
      have hW : cm_Wo D dA b0 (u_mi (u_ml (u_mi (u_mi (u_mi (u_mc w 0 0) 3 0 0) 10 0 ((x_mi w 10 0) + 1)) 6 (((64 * 0) + ((x_mi w 10 0) + 1)).toNatClampNeg) 1) 7 (((64 * 0) + ((x_mi w 10 0) + 1)).toNatClampNeg) (f_Model_stateOfLetters (u_mc w 0 0) (x_mi w 3 0).toNatClampNeg)) 8 (((64 * 0) + ((x_mi w 10 0) + 1)).toNatClampNeg) 0) H := to_mi hW
      refine lv_aload_n hx hb d_Model_make_251 rfl (lv_at hl 4 rfl) ?_
      refine cd_get (ci := 4) (C := R_Model) (T := F_Model) (N := 20) (v := .ref (m_ad w 10 9)) hx hb hA i_Model hown hK hW 9 0 rfl rfl rfl 10 (by decide) mw_200 rfl rfl d_Model_make_252 ?_
      refine lv_iload hx hb d_Model_make_255 (lv_at hl 0 rfl) ?_
      refine lv_iload_n hx hb d_Model_make_257 rfl (lv_at hl 5 rfl) ?_
      refine lv_iconst (v := 1) hx hb d_Model_make_258 (by decide) ?_
      refine lv_icmp_eq (tgt := 267) hx hb d_Model_make_259 (by decide) (fun c_12 => absurd c_12 (by decide)) (fun _ => ?_)
      refine lv_iload_n hx hb d_Model_make_262 rfl (lv_at hl 5 rfl) ?_
      refine lv_iconst (v := 3) hx hb d_Model_make_263 (by decide) ?_
      refine lv_icmp_ne (tgt := 271) hx hb d_Model_make_264 (by decide) (fun _ => ?_) (fun c_13 => absurd c_13 (by decide))
      refine lv_iconst (v := (-1)) hx hb d_Model_make_271 (by decide) ?_
      refine cd_iast hx hb hK hW hS 10 9 (show (9 : Nat) < 11 from by decide) 0 rfl rfl (cm_mk (k := 0) (by decide) hma c_9) d_Model_make_272 (cm_ce dA (u_mi (u_mi (u_ml (u_mi (u_mi (u_mi (u_mc w 0 0) 3 0 0) 10 0 ((x_mi w 10 0) + 1)) 6 (((64 * 0) + ((x_mi w 10 0) + 1)).toNatClampNeg) 1) 7 (((64 * 0) + ((x_mi w 10 0) + 1)).toNatClampNeg) (f_Model_stateOfLetters (u_mc w 0 0) (x_mi w 3 0).toNatClampNeg)) 8 (((64 * 0) + ((x_mi w 10 0) + 1)).toNatClampNeg) 0) 9 (((64 * 0) + ((x_mi w 10 0) + 1)).toNatClampNeg) (-1))) rfl (kp_mi dA (u_mi (u_ml (u_mi (u_mi (u_mi (u_mc w 0 0) 3 0 0) 10 0 ((x_mi w 10 0) + 1)) 6 (((64 * 0) + ((x_mi w 10 0) + 1)).toNatClampNeg) 1) 7 (((64 * 0) + ((x_mi w 10 0) + 1)).toNatClampNeg) (f_Model_stateOfLetters (u_mc w 0 0) (x_mi w 3 0).toNatClampNeg)) 8 (((64 * 0) + ((x_mi w 10 0) + 1)).toNatClampNeg) 0) 9 (((64 * 0) + ((x_mi w 10 0) + 1)).toNatClampNeg) (-1)) (fun H locs hW hS => ?_)
      have hW : cm_Wo D dA b0 (u_mi (u_mi (u_ml (u_mi (u_mi (u_mi (u_mc w 0 0) 3 0 0) 10 0 ((x_mi w 10 0) + 1)) 6 (((64 * 0) + ((x_mi w 10 0) + 1)).toNatClampNeg) 1) 7 (((64 * 0) + ((x_mi w 10 0) + 1)).toNatClampNeg) (f_Model_stateOfLetters (u_mc w 0 0) (x_mi w 3 0).toNatClampNeg)) 8 (((64 * 0) + ((x_mi w 10 0) + 1)).toNatClampNeg) 0) 9 (((64 * 0) + ((x_mi w 10 0) + 1)).toNatClampNeg) (-1)) H := to_mi hW
      refine lv_aload_n hx hb d_Model_make_273 rfl (lv_at hl 4 rfl) ?_
      refine lv_dup hx hb d_Model_make_274 rfl ?_
      refine cd_get (ci := 4) (C := R_Model) (T := F_Model) (N := 20) (v := .int (x_mc w 7)) hx hb hA i_Model hown hK hW 9 0 rfl rfl rfl 18 (by decide) mw_189 rfl rfl d_Model_make_275 ?_
      refine lv_iconst (v := 1) hx hb d_Model_make_278 (by decide) ?_
      refine lv_iadd hx hb d_Model_make_279 ?_
      refine cd_put (ci := 4) (C := R_Model) (T := F_Model) (N := 20) (v := .int ((x_mc w 7) + 1)) hx hb hA i_Model t_Model t_Model_ok n_Model hown hK hW hS 9 0 rfl rfl rfl 18 (by decide) mw_189 rfl rfl rfl rfl (Nat.le_of_ble_eq_true rfl) d_Model_make_280 (cm_ce dA (u_mc (u_mi (u_mi (u_ml (u_mi (u_mi (u_mi (u_mc w 0 0) 3 0 0) 10 0 ((x_mi w 10 0) + 1)) 6 (((64 * 0) + ((x_mi w 10 0) + 1)).toNatClampNeg) 1) 7 (((64 * 0) + ((x_mi w 10 0) + 1)).toNatClampNeg) (f_Model_stateOfLetters (u_mc w 0 0) (x_mi w 3 0).toNatClampNeg)) 8 (((64 * 0) + ((x_mi w 10 0) + 1)).toNatClampNeg) 0) 9 (((64 * 0) + ((x_mi w 10 0) + 1)).toNatClampNeg) (-1)) 7 ((x_mc w 7) + 1))) rfl (kp_mc dA (u_mi (u_mi (u_ml (u_mi (u_mi (u_mi (u_mc w 0 0) 3 0 0) 10 0 ((x_mi w 10 0) + 1)) 6 (((64 * 0) + ((x_mi w 10 0) + 1)).toNatClampNeg) 1) 7 (((64 * 0) + ((x_mi w 10 0) + 1)).toNatClampNeg) (f_Model_stateOfLetters (u_mc w 0 0) (x_mi w 3 0).toNatClampNeg)) 8 (((64 * 0) + ((x_mi w 10 0) + 1)).toNatClampNeg) 0) 9 (((64 * 0) + ((x_mi w 10 0) + 1)).toNatClampNeg) (-1)) 7 ((x_mc w 7) + 1)) (fun H locs hW hS => ?_)
      have hW : cm_Wo D dA b0 (u_mc (u_mi (u_mi (u_ml (u_mi (u_mi (u_mi (u_mc w 0 0) 3 0 0) 10 0 ((x_mi w 10 0) + 1)) 6 (((64 * 0) + ((x_mi w 10 0) + 1)).toNatClampNeg) 1) 7 (((64 * 0) + ((x_mi w 10 0) + 1)).toNatClampNeg) (f_Model_stateOfLetters (u_mc w 0 0) (x_mi w 3 0).toNatClampNeg)) 8 (((64 * 0) + ((x_mi w 10 0) + 1)).toNatClampNeg) 0) 9 (((64 * 0) + ((x_mi w 10 0) + 1)).toNatClampNeg) (-1)) 7 ((x_mc w 7) + 1)) H := to_mc hW
      refine lv_aload_n hx hb d_Model_make_283 rfl (lv_at hl 4 rfl) ?_
      refine lv_dup hx hb d_Model_make_284 rfl ?_
      refine cd_get (ci := 4) (C := R_Model) (T := F_Model) (N := 20) (v := .int (x_mc w 8)) hx hb hA i_Model hown hK hW 9 0 rfl rfl rfl 19 (by decide) mw_182 rfl rfl d_Model_make_285 ?_
      refine lv_iconst (v := 1) hx hb d_Model_make_288 (by decide) ?_
      refine lv_iadd hx hb d_Model_make_289 ?_
      refine cd_put (ci := 4) (C := R_Model) (T := F_Model) (N := 20) (v := .int ((x_mc w 8) + 1)) hx hb hA i_Model t_Model t_Model_ok n_Model hown hK hW hS 9 0 rfl rfl rfl 19 (by decide) mw_182 rfl rfl rfl rfl (Nat.le_of_ble_eq_true rfl) d_Model_make_290 (cm_ce dA (u_mc (u_mc (u_mi (u_mi (u_ml (u_mi (u_mi (u_mi (u_mc w 0 0) 3 0 0) 10 0 ((x_mi w 10 0) + 1)) 6 (((64 * 0) + ((x_mi w 10 0) + 1)).toNatClampNeg) 1) 7 (((64 * 0) + ((x_mi w 10 0) + 1)).toNatClampNeg) (f_Model_stateOfLetters (u_mc w 0 0) (x_mi w 3 0).toNatClampNeg)) 8 (((64 * 0) + ((x_mi w 10 0) + 1)).toNatClampNeg) 0) 9 (((64 * 0) + ((x_mi w 10 0) + 1)).toNatClampNeg) (-1)) 7 ((x_mc w 7) + 1)) 8 ((x_mc w 8) + 1))) rfl (kp_mc dA (u_mc (u_mi (u_mi (u_ml (u_mi (u_mi (u_mi (u_mc w 0 0) 3 0 0) 10 0 ((x_mi w 10 0) + 1)) 6 (((64 * 0) + ((x_mi w 10 0) + 1)).toNatClampNeg) 1) 7 (((64 * 0) + ((x_mi w 10 0) + 1)).toNatClampNeg) (f_Model_stateOfLetters (u_mc w 0 0) (x_mi w 3 0).toNatClampNeg)) 8 (((64 * 0) + ((x_mi w 10 0) + 1)).toNatClampNeg) 0) 9 (((64 * 0) + ((x_mi w 10 0) + 1)).toNatClampNeg) (-1)) 7 ((x_mc w 7) + 1)) 8 ((x_mc w 8) + 1)) (fun H locs hW hS => ?_)
      have hW : cm_Wo D dA b0 (u_mc (u_mc (u_mi (u_mi (u_ml (u_mi (u_mi (u_mi (u_mc w 0 0) 3 0 0) 10 0 ((x_mi w 10 0) + 1)) 6 (((64 * 0) + ((x_mi w 10 0) + 1)).toNatClampNeg) 1) 7 (((64 * 0) + ((x_mi w 10 0) + 1)).toNatClampNeg) (f_Model_stateOfLetters (u_mc w 0 0) (x_mi w 3 0).toNatClampNeg)) 8 (((64 * 0) + ((x_mi w 10 0) + 1)).toNatClampNeg) 0) 9 (((64 * 0) + ((x_mi w 10 0) + 1)).toNatClampNeg) (-1)) 7 ((x_mc w 7) + 1)) 8 ((x_mc w 8) + 1)) H := to_mc hW
      refine lv_iload hx hb d_Model_make_293 (lv_at hl 0 rfl) ?_
      have hf : f_Model_make0 w = (((64 * 0) + ((x_mi w 10 0) + 1)), (u_mc (u_mc (u_mi (u_mi (u_ml (u_mi (u_mi (u_mi (u_mc w 0 0) 3 0 0) 10 0 ((x_mi w 10 0) + 1)) 6 (((64 * 0) + ((x_mi w 10 0) + 1)).toNatClampNeg) 1) 7 (((64 * 0) + ((x_mi w 10 0) + 1)).toNatClampNeg) (f_Model_stateOfLetters (u_mc w 0 0) (x_mi w 3 0).toNatClampNeg)) 8 (((64 * 0) + ((x_mi w 10 0) + 1)).toNatClampNeg) 0) 9 (((64 * 0) + ((x_mi w 10 0) + 1)).toNatClampNeg) (-1)) 7 ((x_mc w 7) + 1)) 8 ((x_mc w 8) + 1))) := by
        simp only [f_Model_make0, if_neg c_8, if_neg c_9]
      exact cd_iret hx hb hr hlocks hW hS d_Model_make_295 ⟨by rw [hf], by rw [hf], by rw [hf], by rw [hf]⟩ (Nat.le_of_ble_eq_true rfl) (Nat.le_of_ble_eq_true rfl)
    · skip
      refine lv_aload_n hx hb d_Model_make_119 rfl (lv_at hl 2 rfl) ?_
      refine lv_bipush (v := (-4)) hx hb d_Model_make_120 (by decide) ?_
      refine cm_cV (w0 := (f_Model_refuse (u_mc w 0 0) (-4)).2) (x0 := .int ((f_Model_refuse (u_mc w 0 0) (-4)).1)) (rest := []) (n := 1) ⟨hx, hb, hml, hown, hA⟩ (cd_GA mw_173) hE hb0 hW hS 9 0 rfl rfl rfl (c_Model_refuse l D dA b0 (u_mc w 0 0) (-4)) mw_177 mw_175 mw_176 mw_174 (by decide +kernel) rfl rfl ⟨by decide, by decide⟩ rfl hl.1 rfl (Nat.le_of_ble_eq_true rfl) d_Model_make_122 ⟨by decide, by decide⟩ (fun H locs hW hS => ?_)
      have hf : f_Model_make0 w = ((f_Model_refuse (u_mc w 0 0) (-4)).1, (f_Model_refuse (u_mc w 0 0) (-4)).2) := by
        simp only [f_Model_make0, if_neg c_8, if_pos c_9]
      exact cd_iret hx hb hr hlocks hW hS d_Model_make_125 ⟨by rw [hf], by rw [hf], by rw [hf], by rw [hf]⟩ (Nat.le_of_ble_eq_true rfl) (Nat.le_of_ble_eq_true rfl)
  · skip
    refine lv_goto (tgt := 101) hx hb d_Model_make_94 (by decide) ?_
    refine lv_aload_n hx hb d_Model_make_101 rfl (lv_at hl 2 rfl) ?_
    refine lv_bipush (v := (-3)) hx hb d_Model_make_102 (by decide) ?_
    refine cm_cV (w0 := (f_Model_refuse (u_mc w 0 0) (-3)).2) (x0 := .int ((f_Model_refuse (u_mc w 0 0) (-3)).1)) (rest := []) (n := 1) ⟨hx, hb, hml, hown, hA⟩ (cd_GA mw_173) hE hb0 hW hS 9 0 rfl rfl rfl (c_Model_refuse l D dA b0 (u_mc w 0 0) (-3)) mw_177 mw_175 mw_176 mw_174 (by decide +kernel) rfl rfl ⟨by decide, by decide⟩ rfl hl.1 rfl (Nat.le_of_ble_eq_true rfl) d_Model_make_104 ⟨by decide, by decide⟩ (fun H locs hW hS => ?_)
    have hf : f_Model_make0 w = ((f_Model_refuse (u_mc w 0 0) (-3)).1, (f_Model_refuse (u_mc w 0 0) (-3)).2) := by
      simp only [f_Model_make0, if_pos c_8]
    exact cd_iret hx hb hr hlocks hW hS d_Model_make_107 ⟨by rw [hf], by rw [hf], by rw [hf], by rw [hf]⟩ (Nat.le_of_ble_eq_true rfl) (Nat.le_of_ble_eq_true rfl)

