/-! make -/
theorem hash_c {f g : Nat → Int32} : ∀ n, (∀ i, i < n → f i = g i) → f_hash_r f n = f_hash_r g n
  | 0, _ => rfl
  | n + 1, h => by
    unfold f_hash_r
    rw [hash_c n (fun i hi => h i (by omega)), h n (by omega)]
theorem bits_c {r v : Nat → Int32} : ∀ n, n ≤ 200 → (∀ i, i < n → r i = v i ∧ (v i = 0 ∨ v i = 1)) → ∃ S C, S ≤ n ∧ C ≤ n ∧ f_sum_r v n = nI S ∧ f_ch_r v (n - 1) = nI C ∧ f_mb_r r n = lN (1000 * S + C)
  | 0, _, _ => ⟨0, 0, Nat.le_refl _, Nat.le_refl _, rfl, rfl, rfl⟩
  | n + 1, hn, h => by
    obtain ⟨S, C, hS, hC, e1, e2, e3⟩ := bits_c n (by omega) (fun i hi => h i (by omega))
    obtain ⟨hr, hv⟩ := h n (by omega)
    obtain ⟨b, hb, eb⟩ : ∃ b, b ≤ 1 ∧ v n = nI b := by
      rcases hv with q | q
      · exact ⟨0, by omega, q⟩
      · exact ⟨1, by omega, q⟩
    have es : f_sum_r v (n + 1) = nI (S + b) := by
      unfold f_sum_r
      rw [e1, eb, nI_add]
    have em : ∀ z : Nat, lN (1000 * S + C) + (1000 * (r n).toInt64 + lN z) = lN (1000 * (S + b) + (C + z)) := fun z => by
      rw [hr, eb, nI_l (by omega), show (1000 : Int64) = lN 1000 from rfl, lN_mul, lN_add, lN_add]
      congr 1
      omega
    cases n with
    | zero =>
      refine ⟨S + b, C, by omega, by omega, es, e2, ?_⟩
      unfold f_mb_r
      rw [e3, if_pos (show nI 0 ≤ 0 by decide)]
      exact em 0
    | succ m =>
      have hrm := (h m (by omega)).1
      have ix : (nI (m + 1) - 1).toNatClampNeg = m := by rw [nI_pred, nI_clamp (by omega)]
      have hnp : ¬ nI (m + 1) ≤ 0 := nI_nle (by omega) (by omega)
      by_cases q : v (m + 1) = v m
      · refine ⟨S + b, C, by omega, by omega, es, ?_, ?_⟩
        · show f_ch_r v (m + 1) = _
          unfold f_ch_r
          rw [if_pos q]
          exact e2
        · rw [show f_mb_r r (m + 1 + 1) = f_mb_r r (m + 1) + (1000 * (r (m + 1)).toInt64 + (if nI (m + 1) ≤ 0 then 0 else if r (m + 1) = r ((nI (m + 1) - 1).toNatClampNeg) then 0 else 1)) from rfl, e3, if_neg hnp, ix, if_pos (by rw [hr, hrm, q])]
          exact em 0
      · refine ⟨S + b, C + 1, by omega, by omega, es, ?_, ?_⟩
        · show f_ch_r v (m + 1) = _
          unfold f_ch_r
          rw [if_neg q, show f_ch_r v m = nI C from e2, nI_1]
        · rw [show f_mb_r r (m + 1 + 1) = f_mb_r r (m + 1) + (1000 * (r (m + 1)).toInt64 + (if nI (m + 1) ≤ 0 then 0 else if r (m + 1) = r ((nI (m + 1) - 1).toNatClampNeg) then 0 else 1)) from rfl, e3, if_neg hnp, ix, if_neg (by rw [hr, hrm]; exact q)]
          exact em 1
theorem bits_eq {r v : Nat → Int32} {n : Nat} (hn : n ≤ 200) (h : ∀ i, i < n → r i = v i ∧ (v i = 0 ∨ v i = 1)) : 1000 * (f_sum_r v n).toInt64 + (f_ch_r v (n - 1)).toInt64 = f_mb_r r n := by
  obtain ⟨S, C, hS, hC, e1, e2, e3⟩ := bits_c n hn h
  rw [e1, e2, e3, nI_l (by omega), nI_l (by omega), show (1000 : Int64) = lN 1000 from rfl, lN_mul, lN_add]
theorem ck_c {r v : Nat → Int32} : ∀ n, (∀ i, i < n → r i = v i ∧ ∃ b, b ≤ 255 ∧ v i = nI b) → ∃ A B, A < 65521 ∧ B < 65521 ∧ f_ck_r v n = (nI A, nI B) ∧ f_mk_r r n = (lN A, lN B)
  | 0, _ => ⟨1, 0, by omega, by omega, rfl, rfl⟩
  | n + 1, h => by
    obtain ⟨A, B, hA, hB, e1, e2⟩ := ck_c n (fun i hi => h i (by omega))
    obtain ⟨hr, b, hb, eb⟩ := h n (by omega)
    refine ⟨(A + b) % 65521, (B + (A + b) % 65521) % 65521, Nat.mod_lt _ (by omega), Nat.mod_lt _ (by omega), ?_, ?_⟩
    · have x1 : nI A + nI b - (nI A + nI b) / 65521 * 65521 = nI ((A + b) % 65521) := by
        rw [nI_add, show (65521 : Int32) = nI 65521 from rfl, pk_rem (by omega) (by omega) (by omega)]
      have x2 : nI B + nI ((A + b) % 65521) - (nI B + nI ((A + b) % 65521)) / 65521 * 65521 = nI ((B + (A + b) % 65521) % 65521) := by
        have := Nat.mod_lt (A + b) (show 65521 > 0 by omega)
        rw [nI_add, show (65521 : Int32) = nI 65521 from rfl, pk_rem (by omega) (by omega) (by omega)]
      unfold f_ck_r
      rw [e1, eb]
      show (nI A + nI b - (nI A + nI b) / 65521 * 65521, nI B + (nI A + nI b - (nI A + nI b) / 65521 * 65521) - (nI B + (nI A + nI b - (nI A + nI b) / 65521 * 65521)) / 65521 * 65521) = _
      rw [x1, x2]
    · have x1 : lN A + lN b - (lN A + lN b) / 65521 * 65521 = lN ((A + b) % 65521) := by
        rw [lN_add, show (65521 : Int64) = lN 65521 from rfl, pk_lRem (by omega) (by omega) (by omega)]
      have x2 : lN B + lN ((A + b) % 65521) - (lN B + lN ((A + b) % 65521)) / 65521 * 65521 = lN ((B + (A + b) % 65521) % 65521) := by
        have := Nat.mod_lt (A + b) (show 65521 > 0 by omega)
        rw [lN_add, show (65521 : Int64) = lN 65521 from rfl, pk_lRem (by omega) (by omega) (by omega)]
      unfold f_mk_r
      rw [e2, hr, eb, nI_l (by omega)]
      show (lN A + lN b - (lN A + lN b) / 65521 * 65521, lN B + (lN A + lN b - (lN A + lN b) / 65521 * 65521) - (lN B + (lN A + lN b - (lN A + lN b) / 65521 * 65521)) / 65521 * 65521) = _
      rw [x1, x2]
theorem ck_eq {r v : Nat → Int32} {n : Nat} (h : ∀ i, i < n → r i = v i ∧ ∃ b, b ≤ 255 ∧ v i = nI b) : 65536 * (f_ck_r v n).2.toInt64 + (f_ck_r v n).1.toInt64 = 65536 * (f_mk_r r n).2 + (f_mk_r r n).1 := by
  obtain ⟨A, B, hA, hB, e1, e2⟩ := ck_c n h
  rw [e1, e2]
  show 65536 * (nI B).toInt64 + (nI A).toInt64 = 65536 * lN B + lN A
  rw [nI_l (by omega), nI_l (by omega)]
theorem mk1_at {w : cx_W} (hI : cx_Iv w) {k : Nat} (hn : ¬ x_al w (nj w k)) (q k' : Nat) (i : Int32) : f_Shelf_at (f_mk1 w k q) k' i = f_Shelf_at w k' i := by
  unfold f_Shelf_at
  have e : cd_oc (x_arr (f_mk1 w k q) k' i.toNatClampNeg) none (fun j_4 => if x_th (f_mk1 w k q) j_4 = 0 then none else some j_4) = cd_oc (x_arr w k' i.toNatClampNeg) none (fun j_4 => if x_th w j_4 = 0 then none else some j_4) := by
    show cd_oc (x_arr w k' i.toNatClampNeg) none _ = _
    cases ha : x_arr w k' i.toNatClampNeg with
    | none => rfl
    | some j =>
      have hj : j ≠ nj w k := fun z => hn (z ▸ hI.2.2.1 _ _ _ ha)
      show (if va_up (x_th w) (nj w k) 0 j = 0 then none else some j) = if x_th w j = 0 then none else some j
      rw [va_up_ne _ _ hj]
  rw [e]
theorem mk1_ct {w : cx_W} (hI : cx_Iv w) {k : Nat} (hn : ¬ x_al w (nj w k)) (q k' : Nat) : ∀ n, f_ct_r (f_mk1 w k q) k' n = f_ct_r w k' n
  | 0 => rfl
  | n + 1 => by
    unfold f_ct_r
    rw [mk1_at hI hn, mk1_ct hI hn q k' n]
theorem cu_zero {th fo : Nat → Int32} {x : Int32} : ∀ n, (∀ j, j < n → ¬ th j = 0 → ¬ fo j = x) → cu th fo x n = 0
  | 0, _ => rfl
  | n + 1, h => by
    unfold cu
    rw [cu_zero n (fun j hj => h j (by omega))]
    by_cases h0 : th n = 0
    · rw [if_pos h0]
    · rw [if_neg h0, if_neg (h n (by omega) h0)]
theorem sim_made {w : cx_W} {m : cm_W} (h : Sim w m) {k : Nat} (hk : k < 6) (hc : x_made w k < 20) (v : Int64) (o : Option Nat) (ho : ∀ s, o = some s → x_al w s) (h3 : k = 3 → ∃ s, o = some s) :
    sM (va_up (x_made w) k (x_made w k + 1)) (va_up (x_arr w) k (va_up (x_arr w k) (x_made w k) (some (nj w k)))) (fun z => z = nj w k ∨ x_al w z) (upd (x_mi m 10) k (nI (x_made w k) + 1)) ∧
    sX (fun z => z = nj w k ∨ x_al w z) (va_up (va_up (x_st w) (nj w k) 0) (nj w k) v) (va_up (va_up (x_tu w) (nj w k) 0) (nj w k) 0) (va_up (va_up (x_th w) (nj w k) 0) (nj w k) 1) (va_up (va_up (x_src w) (nj w k) none) (nj w k) o) (upd (x_mi m 6) (nj w k) 1) (vp_updL (x_ml m 7) (nj w k) v) (upd (x_mi m 8) (nj w k) 0) (upd (x_mi m 9) (nj w k) (srcI o)) ∧
    sU (fun z => z = nj w k ∨ x_al w z) (f_ius (va_up (va_up (x_us w) (nj w k) 0) (nj w k) 0) o) (upd (x_mi m 6) (nj w k) 1) (upd (x_mi m 9) (nj w k) (srcI o)) := by
  obtain ⟨-, -, -, hM, hX, hU⟩ := id h
  have hnew := nj_new h.Iv h.Ia hc
  have hn4 : nj w k < 384 := by unfold nj; omega
  generalize hn0 : nj w k = n0 at hnew hn4 ⊢
  have en0 : n0 = 64 * k + x_made w k + 1 := hn0.symm
  refine ⟨⟨fun k' => ?_, fun k' hk' => ?_, fun k' i hk' hi => ?_, fun j => ?_, fun k' i j ha => ?_⟩, ⟨fun j hj => ?_, fun j hj hn => ?_, fun j q hj hq => ?_, fun j hj j1 j2 => ?_⟩, fun q hq => ?_⟩
  · unfold va_up
    split
    · omega
    · exact hM.1 k'
  · by_cases e : k' = k
    · subst e
      rw [va_up_self, nI_succ]
      simp [upd]
    · rw [va_up_ne _ _ e, ← hM.2.1 k' hk']
      simp [upd, e]
  · by_cases e : k' = k
    · subst e
      rw [va_up_self, va_up_self]
      by_cases ei : i = x_made w k'
      · subst ei
        rw [va_up_self, if_pos (by omega), en0]
      · rw [va_up_ne _ _ ei, hM.2.2.1 k' i hk' hi]
        by_cases hl : i < x_made w k'
        · rw [if_pos hl, if_pos (by omega)]
        · rw [if_neg hl, if_neg (by omega)]
    · rw [va_up_ne _ _ e, va_up_ne _ _ e]
      exact hM.2.2.1 k' i hk' hi
  · constructor
    · rintro (hj | hj)
      · exact ⟨k, x_made w k, hk, by rw [va_up_self]; omega, by rw [hj, en0]⟩
      · obtain ⟨k', i, g1, g2, g3⟩ := (hM.2.2.2.1 j).mp hj
        refine ⟨k', i, g1, ?_, g3⟩
        unfold va_up
        split
        · rename_i e; subst e; omega
        · exact g2
    · rintro ⟨k', i, g1, g2, g3⟩
      by_cases e : k' = k
      · subst e
        rw [va_up_self] at g2
        by_cases ei : i = x_made w k'
        · exact Or.inl (by rw [g3, en0, ei])
        · exact Or.inr ((hM.2.2.2.1 j).mpr ⟨k', i, g1, by omega, g3⟩)
      · rw [va_up_ne _ _ e] at g2
        exact Or.inr ((hM.2.2.2.1 j).mpr ⟨k', i, g1, g2, g3⟩)
  · by_cases e : k' = k
    · subst e
      rw [va_up_self] at ha
      by_cases ei : i = x_made w k'
      · subst ei
        rw [va_up_self] at ha
        exact Or.inl (Option.some.inj ha).symm
      · rw [va_up_ne _ _ ei] at ha
        exact Or.inr (hM.2.2.2.2 k' i j ha)
    · rw [va_up_ne _ _ e] at ha
      exact Or.inr (hM.2.2.2.2 k' i j ha)
  · by_cases e : j = n0
    · subst e
      simp only [va_up_self, upd, vp_updL, if_true]
      exact ⟨trivial, Or.inr trivial, trivial, trivial, ⟨0, by omega, rfl⟩, trivial⟩
    · have hj' : x_al w j := hj.resolve_left e
      simp only [va_up_ne _ _ e, upd, vp_updL, if_neg e]
      exact hX.1 j hj'
  · have e : j ≠ n0 := fun z => hn (Or.inl z)
    simp only [upd, if_neg e]
    exact hX.2.1 j hj (fun z => hn (Or.inr z))
  · by_cases e : j = n0
    · subst e
      rw [va_up_self] at hq
      exact Or.inr (ho q hq)
    · rw [va_up_ne _ _ e, va_up_ne _ _ e] at hq
      exact Or.inr (hX.2.2.1 j q (hj.resolve_left e) hq)
  · by_cases e : j = n0
    · subst e
      rw [va_up_self]
      exact h3 (by omega)
    · rw [va_up_ne _ _ e, va_up_ne _ _ e]
      exact hX.2.2.2 j (hj.resolve_left e) j1 j2
  · have t0 : x_mi m 6 n0 = 0 := hX.2.1 n0 hn4 hnew
    rw [cu_on _ _ _ _ _ t0]
    by_cases e : q = n0
    · subst e
      have z1 : cu (x_mi m 6) (x_mi m 9) (nI q) 384 = 0 := cu_zero 384 (fun j hj ht hfo => by
        have hal := al_t6 h hj ht
        have e9 := (hX.1 j hal).2.2.2.2.2
        rw [hfo] at e9
        cases hs : x_src w j with
        | none => rw [hs] at e9; exact m1_ne (show q < 2 ^ 31 by omega) e9.symm
        | some s =>
          rw [hs] at e9
          have hsl := hX.2.2.1 j s hal hs
          have := h.lt hsl
          have es : q = s := (nI_eq (by omega) (by omega)).mp e9
          exact hnew (es ▸ hsl))
      rw [z1]
      cases o with
      | none =>
        rw [if_neg (fun z => m1_ne (show q < 2 ^ 31 by omega) z.2)]
        show va_up (va_up (x_us w) q 0) q 0 q = _
        rw [va_up_self]
        rfl
      | some s =>
        have hsl := ho s rfl
        have hs4 := h.lt hsl
        have hsq : q ≠ s := fun z => hnew (z ▸ hsl)
        rw [if_neg (fun z => hsq ((nI_eq (by omega) (by omega)).mp z.2.symm))]
        show va_up (va_up (va_up (x_us w) q 0) q 0) s _ q = _
        rw [va_up_ne _ _ hsq, va_up_self]
        rfl
    · have hq' : x_al w q := hq.resolve_left e
      have hq4 := h.lt hq'
      cases o with
      | none =>
        rw [if_neg (fun z => m1_ne (show q < 2 ^ 31 by omega) z.2), Nat.add_zero]
        show va_up (va_up (x_us w) n0 0) n0 0 q = _
        rw [va_up_ne _ _ e, va_up_ne _ _ e]
        exact hU q hq'
      | some s =>
        have hsl := ho s rfl
        have hs4 := h.lt hsl
        have hsn : s ≠ n0 := fun z => hnew (z ▸ hsl)
        show va_up (va_up (va_up (x_us w) n0 0) n0 0) s (va_up (va_up (x_us w) n0 0) n0 0 s + 1) q = _
        by_cases es : q = s
        · subst es
          rw [if_pos ⟨hn4, rfl⟩, va_up_self, va_up_ne _ _ e, va_up_ne _ _ e, hU q hq', nI_1]
        · rw [if_neg (fun z => es ((nI_eq (by omega) (by omega)).mp z.2.symm)), Nat.add_zero, va_up_ne _ _ es, va_up_ne _ _ e, va_up_ne _ _ e]
          exact hU q hq'
theorem made_20 {w : cx_W} {m : cm_W} (h : Sim w m) {k : Nat} (hk : k < 6) : (x_made w k < 20 ∧ f_Shelf_isFull w k = 0 ∧ ¬ x_mi m 10 k = 20) ∨ (¬ f_Shelf_isFull w k = 0 ∧ x_mi m 10 k = 20) := by
  have h1 := h.2.2.2.1.1 k
  have h2 := h.2.2.2.1.2.1 k hk
  unfold f_Shelf_isFull
  rw [h2]
  by_cases hc : x_made w k < 20
  · refine Or.inl ⟨hc, ?_, fun q => absurd ((nI_eq (by omega) (by decide)).mp (show nI (x_made w k) = nI 20 from q)) (by omega)⟩
    rw [if_pos (show nI (x_made w k) < 20 from nI_lt (b := 20) hc (by decide))]
  · have e : x_made w k = 20 := by omega
    rw [e]
    exact Or.inr ⟨by decide, rfl⟩
