theorem un_mod (n : Nat) : uN (lN n) = n % 18446744073709551616 := by
  show (Int64.ofNat n).toUInt64.toNat = _
  show (UInt64.ofNat n).toNat = _
  simp [UInt64.toNat_ofNat']
theorem op_mean {N : qz_N} {S : St} {c : Nat} (hcl : c ≤ 1000) (ok : Ok c S) (hC : RC N S) (hM : RM N S) (x : Int32) : Alike N (fE_mean 0 x) (fM_mean 0 x) (Ok c) := by
  have h6 := ok.np
  rcases ixc x (n := 8) (by decide) with hy | ⟨k, hk, rfl⟩
  · refine Alike.mk' (r := -2) hM (GoC.of ?_ hC) (fun N1 hM => GoM.of ?_ hM) ok
    · rcases hy with hy | hy
      · simp (disch := omega) only [fE_mean, ix_2m, ix_6m, ix_4m, ix_m4, ix_1s, ix_s, ix_s2, ix_s9, ix_s7, ix_s5, ix_s1, nI_add, nI_p1, ix_n, ix_z, ix_1, ix_eq, ix_le, ix_lt, ix_le0, nI_tc, n_leT, n_leF, n_ltT, n_ltF, n_eqT, n_eqF, or_self, or_false, false_or, ↓reduceIte, ↓qz_letL, ↓qz_letI, qz_oc_s, qz_oc_n, Option.bind_some, ne10, not_false_eq_true, l_x, hy]
      · simp (disch := omega) only [fE_mean, ix_2m, ix_6m, ix_4m, ix_m4, ix_1s, ix_s, ix_s2, ix_s9, ix_s7, ix_s5, ix_s1, nI_add, nI_p1, ix_n, ix_z, ix_1, ix_eq, ix_le, ix_lt, ix_le0, nI_tc, n_leT, n_leF, n_ltT, n_ltF, n_eqT, n_eqF, or_self, or_false, false_or, ↓reduceIte, ↓qz_letL, ↓qz_letI, qz_oc_s, qz_oc_n, Option.bind_some, ne10, not_false_eq_true, l_x, bg_n hy, i_8, hy]
    · rcases hy with hy | hy
      · simp (disch := omega) only [fM_mean, ix_2m, ix_6m, ix_4m, ix_m4, ix_1s, ix_s, ix_s2, ix_s9, ix_s7, ix_s5, ix_s1, nI_add, nI_p1, ix_n, ix_z, ix_1, ix_eq, ix_le, ix_lt, ix_le0, nI_tc, n_leT, n_leF, n_ltT, n_ltF, n_eqT, n_eqF, or_self, or_false, false_or, ↓reduceIte, ↓qz_letL, ↓qz_letI, qz_oc_s, qz_oc_n, Option.bind_some, ne10, not_false_eq_true, l_x, hy]
      · simp (disch := omega) only [fM_mean, ix_2m, ix_6m, ix_4m, ix_m4, ix_1s, ix_s, ix_s2, ix_s9, ix_s7, ix_s5, ix_s1, nI_add, nI_p1, ix_n, ix_z, ix_1, ix_eq, ix_le, ix_lt, ix_le0, nI_tc, n_leT, n_leF, n_ltT, n_ltF, n_eqT, n_eqF, or_self, or_false, false_or, ↓reduceIte, ↓qz_letL, ↓qz_letI, qz_oc_s, qz_oc_n, Option.bind_some, ne10, not_false_eq_true, l_x, bg_n hy, i_8, hy]
  obtain ⟨o1, o2, o3⟩ := ok.2.2.2.2.1
  obtain ⟨p1, p2, p3⟩ := o3 k hk
  by_cases z : S 12 k 0 = 0
  · refine Alike.mk' (r := -2) hM (GoC.of (by simp (disch := omega) only [fE_mean, ix_2m, ix_6m, ix_4m, ix_m4, ix_1s, ix_s, ix_s2, ix_s9, ix_s7, ix_s5, ix_s1, nI_add, nI_p1, ix_n, ix_z, ix_1, ix_eq, ix_le, ix_lt, ix_le0, nI_tc, n_leT, n_leF, n_ltT, n_ltF, n_eqT, n_eqF, or_self, or_false, false_or, ↓reduceIte, ↓qz_letL, ↓qz_letI, qz_oc_s, qz_oc_n, Option.bind_some, ne10, not_false_eq_true, l_x, i_8, rC12 hC k hk]) hC) (fun N1 hM => GoM.of ?_ hM) ok
    have e := hM.2.1 k hk
    rw [if_pos z] at e
    simp (disch := omega) only [fM_mean, ix_2m, ix_6m, ix_4m, ix_m4, ix_1s, ix_s, ix_s2, ix_s9, ix_s7, ix_s5, ix_s1, nI_add, nI_p1, ix_n, ix_z, ix_1, ix_eq, ix_le, ix_lt, ix_le0, nI_tc, n_leT, n_leF, n_ltT, n_ltF, n_eqT, n_eqF, or_self, or_false, false_or, ↓reduceIte, ↓qz_letL, ↓qz_letI, qz_oc_s, qz_oc_n, Option.bind_some, ne10, not_false_eq_true, l_x, i_8, e]
    rw [if_neg (by decide)]
  obtain ⟨q1, q2, q3, q4⟩ := p3 z
  have ag := o2 _ p2
  have eM : ∀ N, RM N S → qz_gi N 32 0 k = nI (S 13 k 0) := by
    intro N hM
    have e := hM.2.1 k hk
    rw [if_neg z] at e
    exact e
  have n0 : ∀ j : Nat, j < 6 → ((0 : Int32) ≤ nI j) = True := fun j hj => eq_true (by rw [i_0, ix_le (by decide) (by omega)]; exact Nat.zero_le _)
  by_cases t0 : S 11 (S 13 k 0) 0 - S 15 k 0 = 0
  · refine Alike.mk' (r := -1) hM (GoC.of ?_ hC) (fun N1 hM => GoM.of ?_ hM) ok
    · simp (disch := omega) only [fE_mean, ix_2m, ix_6m, ix_4m, ix_m4, ix_1s, ix_s, ix_s2, ix_s9, ix_s7, ix_s5, ix_s1, nI_add, nI_p1, ix_n, ix_z, ix_1, ix_eq, ix_le, ix_lt, ix_le0, nI_tc, n_leT, n_leF, n_ltT, n_ltF, n_eqT, n_eqF, or_self, or_false, false_or, ↓reduceIte, ↓qz_letL, ↓qz_letI, qz_oc_s, qz_oc_n, Option.bind_some, ne10, not_false_eq_true, l_x, i_8, rC12 hC k hk, rC13 hC k hk, ↓bd (E_po1 hC h6 q1), rC11 hC _ p2, rC15 hC k hk, lN_sub, l_0, l_lt]
    · simp (disch := omega) only [fM_mean, ix_2m, ix_6m, ix_4m, ix_m4, ix_1s, ix_s, ix_s2, ix_s9, ix_s7, ix_s5, ix_s1, nI_add, nI_p1, ix_n, ix_z, ix_1, ix_eq, ix_le, ix_lt, ix_le0, nI_tc, n_leT, n_leF, n_ltT, n_ltF, n_eqT, n_eqF, or_self, or_false, false_or, ↓reduceIte, ↓qz_letL, ↓qz_letI, qz_oc_s, qz_oc_n, Option.bind_some, ne10, not_false_eq_true, l_x, i_8, eM _ hM, n0, rM11 hM _ p2, rM15 hM k hk, lN_sub, l_0, l_eq]
  · have hV : (S 10 (S 13 k 0) 0 - S 14 k 0) % 18446744073709551616 ≤ S 10 (S 13 k 0) 0 - S 14 k 0 := Nat.mod_le _ _
    have hq : (S 10 (S 13 k 0) 0 - S 14 k 0) % 18446744073709551616 / (S 11 (S 13 k 0) 0 - S 15 k 0) ≤ 100000000000000000 := mq_lt (by omega) (by omega)
    have hVb : (S 10 (S 13 k 0) 0 - S 14 k 0) % 18446744073709551616 < 18446744073709551616 := Nat.mod_lt _ (by decide)
    have eA := A_over (lN 0) (lN (S 10 (S 13 k 0) 0 - S 14 k 0)) (lN (S 11 (S 13 k 0) 0 - S 15 k 0)) N (by decide) (by rw [un_lN (by omega)]; omega) (by rw [un_lN (by omega)]; omega)
    rw [show uN (lN 0) = 0 by decide, un_mod, un_lN (n := S 11 (S 13 k 0) 0 - S 15 k 0) (by omega), Nat.zero_mul, Nat.zero_add, Nat.min_eq_left (by omega)] at eA
    refine Alike.mk' (r := lN ((S 10 (S 13 k 0) 0 - S 14 k 0) % 18446744073709551616 / (S 11 (S 13 k 0) 0 - S 15 k 0))) hM (GoC.of ?_ hC) (fun N1 hM => ?_) ok
    · simp (disch := omega) only [fE_mean, ix_2m, ix_6m, ix_4m, ix_m4, ix_1s, ix_s, ix_s2, ix_s9, ix_s7, ix_s5, ix_s1, nI_add, nI_p1, ix_n, ix_z, ix_1, ix_eq, ix_le, ix_lt, ix_le0, nI_tc, n_leT, n_leF, n_ltT, n_ltF, n_eqT, n_eqF, or_self, or_false, false_or, ↓reduceIte, ↓qz_letL, ↓qz_letI, qz_oc_s, qz_oc_n, Option.bind_some, ne10, not_false_eq_true, l_x, i_8, rC12 hC k hk, rC13 hC k hk, ↓bd (E_po1 hC h6 q1), rC11 hC _ p2, rC15 hC k hk, rC10 hC _ p2, rC14 hC k hk, lN_sub, l_0, l_lt, ↓bd eA]
    · simp (disch := omega) only [fM_mean, ix_2m, ix_6m, ix_4m, ix_m4, ix_1s, ix_s, ix_s2, ix_s9, ix_s7, ix_s5, ix_s1, nI_add, nI_p1, ix_n, ix_z, ix_1, ix_eq, ix_le, ix_lt, ix_le0, nI_tc, n_leT, n_leF, n_ltT, n_ltF, n_eqT, n_eqF, or_self, or_false, false_or, ↓reduceIte, ↓qz_letL, ↓qz_letI, qz_oc_s, qz_oc_n, Option.bind_some, ne10, not_false_eq_true, l_x, i_8, eM _ hM, n0, rM11 hM _ p2, rM15 hM k hk, rM10 hM _ p2, rM14 hM k hk, lN_sub, l_0, l_eq]
      obtain ⟨N2, e2, s2, r2, -⟩ := M_begin (lN (S 10 (S 13 k 0) 0 - S 14 k 0)) N1
      rw [un_mod] at r2
      obtain ⟨N3, e3, s3, -⟩ := M_over (D := S 11 (S 13 k 0) 0 - S 15 k 0) r2 (by rw [pw180]; exact Nat.div_eq_of_lt (by omega)) (by omega) (by omega)
      rw [bd e2]
      show GoM N1 (Option.bind (fM_over 0 (lN (S 11 (S 13 k 0) 0 - S 15 k 0)) N2) _) _ S
      rw [bd e3]
      have qc : qcap ((S 10 (S 13 k 0) 0 - S 14 k 0) % 18446744073709551616 / (S 11 (S 13 k 0) 0 - S 15 k 0)) = (S 10 (S 13 k 0) 0 - S 14 k 0) % 18446744073709551616 / (S 11 (S 13 k 0) 0 - S 15 k 0) := by unfold qcap; rw [if_pos (by omega)]
      rw [qc]
      exact GoM.ret (hM.scr (s2.tr s3)) (s2.tr s3).KC
theorem RM.slotI {N : qz_N} {S : St} {c k : Nat} {v : Int32} (hc : c = 35 ∨ c = 36) (hk : S 18 0 0 ≤ k) (h : RM N S) : RM (qz_si N c 0 k v) S := by
  obtain ⟨⟨h1, h2⟩, h3, h4, h5⟩ := h
  refine ⟨⟨fun f i j hd => by rw [qz_gl_si]; exact h1 f i j hd, fun f i j hd => ?_⟩, fun q hq => ?_, fun q hq => ?_, fun q hq => by rw [qz_gl_si]; exact h5 q hq⟩
  · have hl : (lMI f i j).1 ≠ 35 ∧ (lMI f i j).1 ≠ 36 := by
      unfold dMI at hd
      split at hd <;> first | (cases hd; done) | (simp [lMI]; done)
    rw [qz_gi_si, if_neg (by omega)]; exact h2 f i j hd
  · rw [qz_gi_si, if_neg (by omega)]; exact h3 q hq
  · rw [qz_gi_si, qz_gi_si, qz_gl_si, qz_gl_si, if_neg (by omega), if_neg (by omega)]; exact h4 q hq
theorem RM.slotL {N : qz_N} {S : St} {c k : Nat} {v : Int64} (hc : c = 37 ∨ c = 38) (hk : S 18 0 0 ≤ k) (h : RM N S) : RM (qz_sl N c 0 k v) S := by
  obtain ⟨⟨h1, h2⟩, h3, h4, h5⟩ := h
  refine ⟨⟨fun f i j hd => ?_, fun f i j hd => by rw [qz_gi_sl]; exact h2 f i j hd⟩, fun q hq => by rw [qz_gi_sl]; exact h3 q hq, fun q hq => ?_, fun q hq => ?_⟩
  · have hl : (lML f i j).1 ≠ 37 ∧ (lML f i j).1 ≠ 38 := by
      unfold dML at hd
      split at hd <;> first | (cases hd; done) | (simp [lML]; done)
    rw [qz_gl_sl, if_neg (by omega)]; exact h1 f i j hd
  · rw [qz_gi_sl, qz_gi_sl, qz_gl_sl, qz_gl_sl, if_neg (by omega), if_neg (by omega)]; exact h4 q hq
  · rw [qz_gl_sl, if_neg (by omega)]; exact h5 q hq
theorem RM.ord {N : qz_N} {S : St} {n p b q l : Nat} (h : RM N S) (hn : S 18 0 0 = n) (r1 : qz_gi N 35 0 n = nI p) (r2 : qz_gi N 36 0 n = nI b) (r3 : qz_gl N 37 0 n = lN q) (r4 : qz_gl N 38 0 n = lN l) : RM (qz_si N 7 0 17 (nI (n + 1))) (qz_u3 (qz_u3 (qz_u3 (qz_u3 (qz_u3 S 18 0 0 (n + 1)) 19 n 0 p) 20 n 0 b) 21 n 0 q) 22 n 0 l) := by
  obtain ⟨ht, h3, h4, h5⟩ := h
  have t1 := TM.setI (f := 18) (i := 0) (j := 0) (v := n + 1) ht rfl
  have e : ∀ f', f' ≠ 19 → f' ≠ 20 → f' ≠ 21 → f' ≠ 22 → qz_u3 (qz_u3 (qz_u3 (qz_u3 (qz_u3 S 18 0 0 (n + 1)) 19 n 0 p) 20 n 0 b) 21 n 0 q) 22 n 0 l f' = qz_u3 S 18 0 0 (n + 1) f' := fun f' a b c d => by rw [u3_f d, u3_f c, u3_f b, u3_f a]
  refine ⟨⟨fun f i j hd => ?_, fun f i j hd => ?_⟩, fun k hk => ?_, fun k hk => ?_, fun k hk => ?_⟩
  · rw [e f (by rintro rfl; cases hd) (by rintro rfl; cases hd) (by rintro rfl; cases hd) (by rintro rfl; cases hd)]; exact t1.1 f i j hd
  · rw [e f (by rintro rfl; cases hd) (by rintro rfl; cases hd) (by rintro rfl; cases hd) (by rintro rfl; cases hd)]; exact t1.2 f i j hd
  · rw [e 12 (by decide) (by decide) (by decide) (by decide), e 13 (by decide) (by decide) (by decide) (by decide), u3_f (by decide), u3_f (by decide), qz_gi_si, if_neg (by omega)]; exact h3 k hk
  · rw [e 18 (by decide) (by decide) (by decide) (by decide), u3_s] at hk
    rw [qz_gi_si, qz_gi_si, qz_gl_si, qz_gl_si, if_neg (by omega), if_neg (by omega)]
    simp (disch := omega) only [u3_f, u3_e]
    rw [up_g, up_g, up_g, up_g]
    by_cases c : k = n
    · rw [if_pos c, if_pos c, if_pos c, if_pos c, c]
      exact ⟨r1, r2, r3, r4⟩
    · rw [if_neg c, if_neg c, if_neg c, if_neg c]
      exact h4 k (by omega)
  · rw [e 24 (by decide) (by decide) (by decide) (by decide), u3_f (by decide)] at hk
    rw [e 25 (by decide) (by decide) (by decide) (by decide), u3_f (by decide), qz_gl_si]; exact h5 k hk
def stO (S : St) (n p t g b q l : Nat) : St := qz_u3 (qz_u3 (qz_u3 (qz_u3 (qz_u3 (qz_u3 S 0 p t (S 0 p t - g)) 18 0 0 (n + 1)) 19 n 0 p) 20 n 0 b) 21 n 0 q) 22 n 0 l
theorem ok_order {S : St} {c n p t g b q l : Nat} (ok : Ok c S) (hp : p < 6) (hn : S 18 0 0 = n) (h40 : n < 40) (hb : b ≤ 1) (q1 : 1 ≤ q) (q2 : q ≤ 10000000000) (l1 : 1 ≤ l) (l2 : l ≤ 1000000) (hT : t = if b = 0 then S 16 0 0 else S 17 0 0) (hg : g = if b = 0 then q else (q * l + 999) / 1000) (ha : g ≤ S 0 p t) : Ok c (stO S n p t g b q l) := by
  obtain ⟨h1, h2, h3, h4, h5, h6', h7⟩ := ok
  unfold Ok stO
  simp (disch := omega) only [u3_f, u3_e]
  refine ⟨?_, h2, h3, ?_, h5, h6', h7⟩
  · intro t' ht'
    obtain ⟨a1, a2⟩ := h1 t' ht'
    refine ⟨?_, a2⟩
    have r1 := cB_sub (bal := S 0) (p := p) (t0 := t) (a := g) hp ha t'
    have e : cO (S 16) (S 17) (up2 (S 18) 0 0 (n + 1)) (up2 (S 20) n 0 b) (up2 (S 21) n 0 q) (up2 (S 22) n 0 l) t' = cO (S 16) (S 17) (S 18) (S 20) (S 21) (S 22) t' + (if t' = t then g else 0) := by
      unfold cO
      rw [up2_s, sg_s, hn]
      have : sg (fun i => if ht (S 16) (S 17) (up2 (S 20) n 0 b) i = t' then hl (up2 (S 20) n 0 b) (up2 (S 21) n 0 q) (up2 (S 22) n 0 l) i else 0) n = sg (fun i => if ht (S 16) (S 17) (S 20) i = t' then hl (S 20) (S 21) (S 22) i else 0) n := sg_congr (fun i hi => by
        show (if ht (S 16) (S 17) (up2 (S 20) n 0 b) i = t' then hl (up2 (S 20) n 0 b) (up2 (S 21) n 0 q) (up2 (S 22) n 0 l) i else 0) = (if ht (S 16) (S 17) (S 20) i = t' then hl (S 20) (S 21) (S 22) i else 0)
        unfold ht hl
        rw [up_n (show i ≠ n by omega), up_n (show i ≠ n by omega), up_n (show i ≠ n by omega)])
      rw [this]
      congr 1
      unfold ht hl
      rw [up2_s, up2_s, up2_s, ← hT, ← hg]
      by_cases c1 : t = t'
      · rw [if_pos c1, if_pos c1.symm]
      · rw [if_neg c1, if_neg (Ne.symm c1)]
    rw [e]
    omega
  · obtain ⟨a1, a2, a3, a4, a5, a6⟩ := h4
    unfold O4
    rw [up2_s]
    refine ⟨a1, a2, a3, by omega, a5, fun i hi => ?_⟩
    rw [up_g, up_g, up_g, up_g]
    by_cases c1 : i = n
    · rw [if_pos c1, if_pos c1, if_pos c1, if_pos c1]
      exact ⟨hp, hb, q1, q2, l1, l2⟩
    · rw [if_neg c1, if_neg c1, if_neg c1, if_neg c1]
      exact a6 i (by omega)
theorem M_giveX {N : qz_N} {S : St} (hM : RM N S) {p t w : Nat} {d : Int64} (hp : p < 6) (ht : t < 4) (hw : lN (S 0 p t) + d = lN w) : fM_give 0 (nI p) (nI t) d N = some ((), qz_sl N 22 0 (4 * p + t) (lN w)) := by
  unfold fM_give
  rw [M_ix, if_neg (nI_ok (n := 24) (by omega) (by decide)), if_neg (nI_ok (n := 24) (by omega) (by decide)), nI_tc (by omega), qz_let_eq, rM0 hM p t hp ht, hw]
theorem M_heldX {N : qz_N} {n b q l : Nat} (hn : n < 40) (hb : b ≤ 1) (q2 : q ≤ 10000000000) (l2 : l ≤ 1000000) (r2 : qz_gi N 36 0 n = nI b) (r3 : qz_gl N 37 0 n = lN q) (r4 : qz_gl N 38 0 n = lN l) : fM_heldBy 0 (nI n) N = some (lN (if b = 0 then q else (q * l + 999) / 1000), N) := by
  have bb : q * l ≤ 10000000000 * 1000000 := Nat.mul_le_mul q2 l2
  by_cases k : b = 0
  · simp (disch := omega) only [fM_heldBy, ix_2m, ix_6m, ix_4m, ix_m4, ix_1s, ix_s, ix_s2, ix_s9, ix_s7, ix_s5, ix_s1, nI_add, nI_p1, ix_n, ix_z, ix_1, ix_eq, ix_le, ix_lt, ix_le0, nI_tc, n_leT, n_leF, n_ltT, n_ltF, n_eqT, n_eqF, or_self, or_false, false_or, ↓reduceIte, ↓qz_letL, ↓qz_letI, qz_oc_s, qz_oc_n, Option.bind_some, ne10, not_false_eq_true, l_x, r2, r3, r4]
  · simp (disch := omega) only [fM_heldBy, ix_2m, ix_6m, ix_4m, ix_m4, ix_1s, ix_s, ix_s2, ix_s9, ix_s7, ix_s5, ix_s1, nI_add, nI_p1, ix_n, ix_z, ix_1, ix_eq, ix_le, ix_lt, ix_le0, nI_tc, n_leT, n_leF, n_ltT, n_ltF, n_eqT, n_eqF, or_self, or_false, false_or, ↓reduceIte, ↓qz_letL, ↓qz_letI, qz_oc_s, qz_oc_n, Option.bind_some, ne10, not_false_eq_true, l_x, r2, r3, r4, fM_up, l_0, l_1, l_60, l_80, l_100, l_105, l_k, l_xk, l_m, l_g, l_xg, l_t, l_ct, l_ex, l_mx, l_lt, l_le, l_eq, l_div, l_ite, lN_add, lN_sub, lN_mul, lN_addneg]
    rw [show q * l + 1000 - 1 = q * l + 999 by omega]
theorem E_put {N : qz_N} {S : St} (hC : RC N S) {n p b q l : Nat} (hn : S 18 0 0 = n) (h40 : n < 40) (hb : vp_nar .boolean (nI b) = nI b) : GoC N (fB_put 0 (nI p) (nI b) (lN q) (lN l) N) (nI n) (qz_u3 (qz_u3 (qz_u3 (qz_u3 (qz_u3 S 19 n 0 p) 20 n 0 b) 21 n 0 q) 22 n 0 l) 18 0 0 (n + 1)) := by
  unfold fB_put
  rw [rC18 hC, hn, if_neg (nI_ok (n := 40) h40 (by decide)), nI_tc (by omega), hb]
  refine GoC.wr (wC19 hC n p h40) (KM.si (by decide)) (fun N1 hC k1 => ?_)
  rw [rC18 hC, u3_f (by decide), hn, if_neg (nI_ok (n := 40) h40 (by decide)), nI_tc (by omega)]
  refine GoC.wr (wC20 hC n b h40) (k1.tr (KM.si (by decide))) (fun N1 hC k1 => ?_)
  rw [rC18 hC, u3_f (by decide), u3_f (by decide), hn, if_neg (nI_ok (n := 40) h40 (by decide)), nI_tc (by omega)]
  refine GoC.wr (wC21 hC n q h40) (k1.tr (KM.sl (by decide))) (fun N1 hC k1 => ?_)
  rw [rC18 hC, u3_f (by decide), u3_f (by decide), u3_f (by decide), hn, if_neg (nI_ok (n := 40) h40 (by decide)), nI_tc (by omega)]
  refine GoC.wr (wC22 hC n l h40) (k1.tr (KM.sl (by decide))) (fun N1 hC k1 => ?_)
  rw [rC18 hC, u3_f (by decide), u3_f (by decide), u3_f (by decide), u3_f (by decide), hn, nI_p1]
  refine GoC.wr (wC18 hC (n + 1)) (k1.tr (KM.si (by decide))) (fun N1 hC k1 => ?_)
  rw [rC18 hC, u3_s, ix_s1 (by omega), Nat.add_sub_cancel]
  exact GoC.ret hC k1
theorem op_order {N : qz_N} {S : St} {c : Nat} (ok : Ok c S) (hC : RC N S) (hM : RM N S) (x s : Int32) (z1 z2 : Int64) : Alike N (fE_order 0 x s z1 z2) (fM_order 0 x s z1 z2) (Ok c) := by
  obtain ⟨tA, tB, tne, h40, -, -⟩ := ok.2.2.2.1
  rcases ixc x (n := 6) (by decide) with hy | ⟨p, hp, rfl⟩
  · exact Alike.mk' (r := -2) hM (GoC.of (by simp (disch := omega) only [fE_order, ↓bd (E_pl0 hy _), ix_2m, ix_6m, ix_4m, ix_m4, ix_1s, ix_s, ix_s2, ix_s9, ix_s7, ix_s5, ix_s1, nI_add, nI_p1, ix_n, ix_z, ix_1, ix_eq, ix_le, ix_lt, ix_le0, nI_tc, n_leT, n_leF, n_ltT, n_ltF, n_eqT, n_eqF, or_self, or_false, false_or, ↓reduceIte, ↓qz_letL, ↓qz_letI, qz_oc_s, qz_oc_n, Option.bind_some, ne10, not_false_eq_true, l_x]) hC) (fun N1 hM => GoM.of (by simp (disch := omega) only [fM_order, ↓bd (M_pl0 hy _), ix_2m, ix_6m, ix_4m, ix_m4, ix_1s, ix_s, ix_s2, ix_s9, ix_s7, ix_s5, ix_s1, nI_add, nI_p1, ix_n, ix_z, ix_1, ix_eq, ix_le, ix_lt, ix_le0, nI_tc, n_leT, n_leF, n_ltT, n_ltF, n_eqT, n_eqF, or_self, or_false, false_or, ↓reduceIte, ↓qz_letL, ↓qz_letI, qz_oc_s, qz_oc_n, Option.bind_some, ne10, not_false_eq_true, l_x]) hM) ok
  rcases sdc s with hs | ⟨b, hb, rfl⟩
  · refine Alike.mk' (r := -2) hM (GoC.of (by simp (disch := omega) only [fE_order, ↓bd (E_pl1 hp _), ix_2m, ix_6m, ix_4m, ix_m4, ix_1s, ix_s, ix_s2, ix_s9, ix_s7, ix_s5, ix_s1, nI_add, nI_p1, ix_n, ix_z, ix_1, ix_eq, ix_le, ix_lt, ix_le0, nI_tc, n_leT, n_leF, n_ltT, n_ltF, n_eqT, n_eqF, or_self, or_false, false_or, ↓reduceIte, ↓qz_letL, ↓qz_letI, qz_oc_s, qz_oc_n, Option.bind_some, ne10, not_false_eq_true, l_x, hs.1, hs.2]) hC) (fun N1 hM => GoM.of ?_ hM) ok
    unfold fM_order
    rw [bd (M_pl1 hp _)]
    show (if (1 : Int32) = 0 then _ else if s < 0 then _ else if (1 : Int32) < s then _ else _) = _
    rw [if_neg ne10]
    rcases sd_m hs with g | g
    · rw [if_pos g]
    · rw [if_neg (by rw [bg_n g (by decide)]; exact id), i_1, if_pos (by rw [bg_gt g (by decide) (by decide)]; trivial)]
  have eC : fE_order 0 (nI p) (nI b) z1 z2 N = fE_order_19 0 N (nI p) (nI b) z1 z2 := by
    unfold fE_order
    rw [bd (E_pl1 hp _)]
    show (if (1 : Int32) = 0 then _ else if nI b = 0 then _ else if nI b = 1 then _ else _) = _
    rw [if_neg ne10]
    rcases (show b = 0 ∨ b = 1 by omega) with rfl | rfl
    · rfl
    · rfl
  rcases l_gi (x := z1) with hz | ⟨q, q1, q2, rfl⟩
  · exact Alike.mk' (r := -2) hM (GoC.of (by rw [eC]; simp (disch := omega) only [fE_order_19, l_1, hz, ix_2m, ix_6m, ix_4m, ix_m4, ix_1s, ix_s, ix_s2, ix_s9, ix_s7, ix_s5, ix_s1, nI_add, nI_p1, ix_n, ix_z, ix_1, ix_eq, ix_le, ix_lt, ix_le0, nI_tc, n_leT, n_leF, n_ltT, n_ltF, n_eqT, n_eqF, or_self, or_false, false_or, ↓reduceIte, ↓qz_letL, ↓qz_letI, qz_oc_s, qz_oc_n, Option.bind_some, ne10, not_false_eq_true, l_x]) hC) (fun N1 hM => GoM.of (by simp (disch := omega) only [fM_order, ↓bd (M_pl1 hp _), ix_2m, ix_6m, ix_4m, ix_m4, ix_1s, ix_s, ix_s2, ix_s9, ix_s7, ix_s5, ix_s1, nI_add, nI_p1, ix_n, ix_z, ix_1, ix_eq, ix_le, ix_lt, ix_le0, nI_tc, n_leT, n_leF, n_ltT, n_ltF, n_eqT, n_eqF, or_self, or_false, false_or, ↓reduceIte, ↓qz_letL, ↓qz_letI, qz_oc_s, qz_oc_n, Option.bind_some, ne10, not_false_eq_true, l_x, i_1, l_1, hz]) hM) ok
  by_cases q3 : q ≤ 10000000000
  case neg => exact Alike.mk' (r := -2) hM (GoC.of (by rw [eC]; simp (disch := omega) only [fE_order_19, l_1, l_xg, l_lt, ix_2m, ix_6m, ix_4m, ix_m4, ix_1s, ix_s, ix_s2, ix_s9, ix_s7, ix_s5, ix_s1, nI_add, nI_p1, ix_n, ix_z, ix_1, ix_eq, ix_le, ix_lt, ix_le0, nI_tc, n_leT, n_leF, n_ltT, n_ltF, n_eqT, n_eqF, or_self, or_false, false_or, ↓reduceIte, ↓qz_letL, ↓qz_letI, qz_oc_s, qz_oc_n, Option.bind_some, ne10, not_false_eq_true, l_x]) hC) (fun N1 hM => GoM.of (by simp (disch := omega) only [fM_order, ↓bd (M_pl1 hp _), ix_2m, ix_6m, ix_4m, ix_m4, ix_1s, ix_s, ix_s2, ix_s9, ix_s7, ix_s5, ix_s1, nI_add, nI_p1, ix_n, ix_z, ix_1, ix_eq, ix_le, ix_lt, ix_le0, nI_tc, n_leT, n_leF, n_ltT, n_ltF, n_eqT, n_eqF, or_self, or_false, false_or, ↓reduceIte, ↓qz_letL, ↓qz_letI, qz_oc_s, qz_oc_n, Option.bind_some, ne10, not_false_eq_true, l_x, i_1, l_1, l_xg, l_lt]) hM) ok
  rcases l_gi (x := z2) with hz | ⟨l, l1, l2, rfl⟩
  · exact Alike.mk' (r := -2) hM (GoC.of (by rw [eC]; simp (disch := omega) only [fE_order_19, l_1, l_xg, l_lt, hz, ix_2m, ix_6m, ix_4m, ix_m4, ix_1s, ix_s, ix_s2, ix_s9, ix_s7, ix_s5, ix_s1, nI_add, nI_p1, ix_n, ix_z, ix_1, ix_eq, ix_le, ix_lt, ix_le0, nI_tc, n_leT, n_leF, n_ltT, n_ltF, n_eqT, n_eqF, or_self, or_false, false_or, ↓reduceIte, ↓qz_letL, ↓qz_letI, qz_oc_s, qz_oc_n, Option.bind_some, ne10, not_false_eq_true, l_x]) hC) (fun N1 hM => GoM.of (by simp (disch := omega) only [fM_order, ↓bd (M_pl1 hp _), ix_2m, ix_6m, ix_4m, ix_m4, ix_1s, ix_s, ix_s2, ix_s9, ix_s7, ix_s5, ix_s1, nI_add, nI_p1, ix_n, ix_z, ix_1, ix_eq, ix_le, ix_lt, ix_le0, nI_tc, n_leT, n_leF, n_ltT, n_ltF, n_eqT, n_eqF, or_self, or_false, false_or, ↓reduceIte, ↓qz_letL, ↓qz_letI, qz_oc_s, qz_oc_n, Option.bind_some, ne10, not_false_eq_true, l_x, i_1, l_1, l_xg, l_lt, hz]) hM) ok
  by_cases l3 : l ≤ 1000000
  case neg => exact Alike.mk' (r := -2) hM (GoC.of (by rw [eC]; simp (disch := omega) only [fE_order_19, l_1, l_xg, l_m, l_lt, l_le, ix_2m, ix_6m, ix_4m, ix_m4, ix_1s, ix_s, ix_s2, ix_s9, ix_s7, ix_s5, ix_s1, nI_add, nI_p1, ix_n, ix_z, ix_1, ix_eq, ix_le, ix_lt, ix_le0, nI_tc, n_leT, n_leF, n_ltT, n_ltF, n_eqT, n_eqF, or_self, or_false, false_or, ↓reduceIte, ↓qz_letL, ↓qz_letI, qz_oc_s, qz_oc_n, Option.bind_some, ne10, not_false_eq_true, l_x]) hC) (fun N1 hM => GoM.of (by simp (disch := omega) only [fM_order, ↓bd (M_pl1 hp _), ix_2m, ix_6m, ix_4m, ix_m4, ix_1s, ix_s, ix_s2, ix_s9, ix_s7, ix_s5, ix_s1, nI_add, nI_p1, ix_n, ix_z, ix_1, ix_eq, ix_le, ix_lt, ix_le0, nI_tc, n_leT, n_leF, n_ltT, n_ltF, n_eqT, n_eqF, or_self, or_false, false_or, ↓reduceIte, ↓qz_letL, ↓qz_letI, qz_oc_s, qz_oc_n, Option.bind_some, ne10, not_false_eq_true, l_x, i_1, l_1, l_xg, l_m, l_lt, l_le]) hM) ok
  have bq : q * l ≤ 10000000000 * 1000000 := Nat.mul_le_mul q3 l3
  obtain ⟨t, hT⟩ : ∃ t, t = if b = 0 then S 16 0 0 else S 17 0 0 := ⟨_, rfl⟩
  obtain ⟨g, hg⟩ : ∃ g, g = if b = 0 then q else (q * l + 999) / 1000 := ⟨_, rfl⟩
  have t4 : t < 4 := by rw [hT]; split <;> omega
  have gb : g ≤ 10000000000001 := by rw [hg]; split <;> omega
  have eC2 : fE_order 0 (nI p) (nI b) (lN q) (lN l) N = fE_order_91 0 N (nI p) (nI b) (lN q) (lN l) (nI t) (lN g) := by
    rw [eC]
    simp (disch := omega) only [fE_order_19, l_1, l_xg, l_m, l_lt, l_le, ix_2m, ix_6m, ix_4m, ix_m4, ix_1s, ix_s, ix_s2, ix_s9, ix_s7, ix_s5, ix_s1, nI_add, nI_p1, ix_n, ix_z, ix_1, ix_eq, ix_le, ix_lt, ix_le0, nI_tc, n_leT, n_leF, n_ltT, n_ltF, n_eqT, n_eqF, or_self, or_false, false_or, ↓reduceIte, ↓qz_letL, ↓qz_letI, qz_oc_s, qz_oc_n, Option.bind_some, ne10, not_false_eq_true, l_x, rC16 hC, rC17 hC]
    rcases (show b = 0 ∨ b = 1 by omega) with rfl | rfl
    · rw [hT, hg]
      simp (disch := omega) only [fE_order_74, ix_2m, ix_6m, ix_4m, ix_m4, ix_1s, ix_s, ix_s2, ix_s9, ix_s7, ix_s5, ix_s1, nI_add, nI_p1, ix_n, ix_z, ix_1, ix_eq, ix_le, ix_lt, ix_le0, nI_tc, n_leT, n_leF, n_ltT, n_ltF, n_eqT, n_eqF, or_self, or_false, false_or, ↓reduceIte, ↓qz_letL, ↓qz_letI, qz_oc_s, qz_oc_n, Option.bind_some, ne10, not_false_eq_true, l_x]
    · rw [hT, hg]
      simp (disch := omega) only [fE_order_74, ix_2m, ix_6m, ix_4m, ix_m4, ix_1s, ix_s, ix_s2, ix_s9, ix_s7, ix_s5, ix_s1, nI_add, nI_p1, ix_n, ix_z, ix_1, ix_eq, ix_le, ix_lt, ix_le0, nI_tc, n_leT, n_leF, n_ltT, n_ltF, n_eqT, n_eqF, or_self, or_false, false_or, ↓reduceIte, ↓qz_letL, ↓qz_letI, qz_oc_s, qz_oc_n, Option.bind_some, ne10, not_false_eq_true, l_x, fB_priceUp, l_0, l_1, l_60, l_80, l_100, l_105, l_k, l_xk, l_m, l_g, l_xg, l_t, l_ct, l_ex, l_mx, l_lt, l_le, l_eq, l_div, l_ite, lN_add, lN_sub, lN_mul, lN_addneg]
      rw [show q * l + 1000 - 1 = q * l + 999 by omega]
  have nb : vp_nar .boolean (nI b) = nI b := by
    rcases (show b = 0 ∨ b = 1 by omega) with rfl | rfl
    · exact nar0
    · exact nar1
  have bb := ok.bal hp t4
  by_cases hn : S 18 0 0 = 40
  · refine Alike.mk' (r := -3) hM (GoC.of (by rw [eC2]; simp (disch := omega) only [fE_order_91, i_40, rC18 hC, ix_2m, ix_6m, ix_4m, ix_m4, ix_1s, ix_s, ix_s2, ix_s9, ix_s7, ix_s5, ix_s1, nI_add, nI_p1, ix_n, ix_z, ix_1, ix_eq, ix_le, ix_lt, ix_le0, nI_tc, n_leT, n_leF, n_ltT, n_ltF, n_eqT, n_eqF, or_self, or_false, false_or, ↓reduceIte, ↓qz_letL, ↓qz_letI, qz_oc_s, qz_oc_n, Option.bind_some, ne10, not_false_eq_true, l_x]) hC) (fun N1 hM => GoM.of (by simp (disch := omega) only [fM_order, ↓bd (M_pl1 hp _), ix_2m, ix_6m, ix_4m, ix_m4, ix_1s, ix_s, ix_s2, ix_s9, ix_s7, ix_s5, ix_s1, nI_add, nI_p1, ix_n, ix_z, ix_1, ix_eq, ix_le, ix_lt, ix_le0, nI_tc, n_leT, n_leF, n_ltT, n_ltF, n_eqT, n_eqF, or_self, or_false, false_or, ↓reduceIte, ↓qz_letL, ↓qz_letI, qz_oc_s, qz_oc_n, Option.bind_some, ne10, not_false_eq_true, l_x, i_1, l_1, l_xg, l_m, l_lt, l_le, rM18 hM, i_40]) hM) ok
  have eM : ∀ N1, RM N1 S → fM_order 0 (nI p) (nI b) (lN q) (lN l) N1 = fM_order_83 0 N1 (nI p) (lN q) (lN l) (nI (S 18 0 0)) (nI b) (nI (S 18 0 0)) 0 := by
    intro N1 hM
    simp (disch := omega) only [fM_order, ↓bd (M_pl1 hp _), ix_2m, ix_6m, ix_4m, ix_m4, ix_1s, ix_s, ix_s2, ix_s9, ix_s7, ix_s5, ix_s1, nI_add, nI_p1, ix_n, ix_z, ix_1, ix_eq, ix_le, ix_lt, ix_le0, nI_tc, n_leT, n_leF, n_ltT, n_ltF, n_eqT, n_eqF, or_self, or_false, false_or, ↓reduceIte, ↓qz_letL, ↓qz_letI, qz_oc_s, qz_oc_n, Option.bind_some, ne10, not_false_eq_true, l_x, l_1, l_xg, l_m, l_lt, l_le, rM18 hM, i_40, i_1]
    rcases (show b = 0 ∨ b = 1 by omega) with rfl | rfl
    · rfl
    · rfl
  have eM2 : ∀ N1, RM N1 S → ∃ N2, fM_order 0 (nI p) (nI b) (lN q) (lN l) N1 = fM_order_122 0 N2 (nI p) (nI (S 18 0 0)) (nI t) ∧ RM N2 S ∧ KC N1 N2 ∧ qz_gi N2 36 0 (S 18 0 0) = nI b ∧ qz_gl N2 37 0 (S 18 0 0) = lN q ∧ qz_gl N2 38 0 (S 18 0 0) = lN l := by
    intro N1 hM
    have hA := RM.slotI (c := 36) (k := S 18 0 0) (v := nI b) (Or.inr rfl) (Nat.le_refl _) hM
    have hB := RM.slotL (c := 37) (k := S 18 0 0) (v := lN q) (Or.inl rfl) (Nat.le_refl _) hA
    have hD := RM.slotL (c := 38) (k := S 18 0 0) (v := lN l) (Or.inr rfl) (Nat.le_refl _) hB
    refine ⟨_, ?_, hD, ((KC.si (by decide)).tr (KC.sl (by decide))).tr (KC.sl (by decide)), ?_, ?_, ?_⟩
    · rw [eM _ hM]
      unfold fM_order_83
      have nk : ¬ (nI (S 18 0 0) < 0 ∨ 40 ≤ (nI (S 18 0 0)).toNatClampNeg) := nI_ok (n := 40) (by omega) (by decide)
      rw [nb, if_neg nk, qz_let_eq, if_neg nk, qz_let_eq, if_neg nk, qz_let_eq, if_neg nk, nI_tc (by omega), rM16 hD, rM17 hD, hT]
      have e36 : qz_gi (qz_sl (qz_sl (qz_si N1 36 0 (S 18 0 0) (nI b)) 37 0 (S 18 0 0) (lN q)) 38 0 (S 18 0 0) (lN l)) 36 0 (S 18 0 0) = nI b := by
        rw [qz_gi_sl, qz_gi_sl, qz_gi_si, if_pos ⟨rfl, rfl, rfl⟩]
      rw [e36]
      rcases (show b = 0 ∨ b = 1 by omega) with rfl | rfl
      · rfl
      · rfl
    · rw [qz_gi_sl, qz_gi_sl, qz_gi_si, if_pos ⟨rfl, rfl, rfl⟩]
    · rw [qz_gl_sl, if_neg (by omega), qz_gl_sl, if_pos ⟨rfl, rfl, rfl⟩]
    · rw [qz_gl_sl, if_pos ⟨rfl, rfl, rfl⟩]
  by_cases ha : g ≤ S 0 p t
  case neg =>
    refine Alike.mk' (r := -3) hM (GoC.of (by rw [eC2]; simp (disch := omega) only [fE_order_91, i_40, rC18 hC, ix_2m, ix_6m, ix_4m, ix_m4, ix_1s, ix_s, ix_s2, ix_s9, ix_s7, ix_s5, ix_s1, nI_add, nI_p1, ix_n, ix_z, ix_1, ix_eq, ix_le, ix_lt, ix_le0, nI_tc, n_leT, n_leF, n_ltT, n_ltF, n_eqT, n_eqF, or_self, or_false, false_or, ↓reduceIte, ↓qz_letL, ↓qz_letI, qz_oc_s, qz_oc_n, Option.bind_some, ne10, not_false_eq_true, l_x, ↓bd (E_held hC hp t4), l_le]) hC) (fun N1 hM => ?_) ok
    obtain ⟨N2, e, hM2, k2, r2, r3, r4⟩ := eM2 N1 hM
    rw [e]
    unfold fM_order_122
    refine GoM.eq (M_has hM2 hp t4) ?_
    have eh := M_heldX (by omega) (by omega) q3 l3 r2 r3 r4
    rw [← hg] at eh
    refine GoM.eq eh ?_
    show GoM N1 (if lN g ≤ lN (S 0 p t) then _ else _) _ _
    rw [ifc (l_le (by omega) (by omega)), if_neg ha]
    exact GoM.ret hM2 k2
  refine Alike.mk' (r := nI (S 18 0 0)) (S' := stO S (S 18 0 0) p t g b q l) hM ?_ (fun N1 hM => ?_) (ok_order ok hp rfl (by omega) (by omega) q1 q3 l1 l3 hT hg ha)
  · rw [eC2]
    simp (disch := omega) only [fE_order_91, i_40, rC18 hC, ix_2m, ix_6m, ix_4m, ix_m4, ix_1s, ix_s, ix_s2, ix_s9, ix_s7, ix_s5, ix_s1, nI_add, nI_p1, ix_n, ix_z, ix_1, ix_eq, ix_le, ix_lt, ix_le0, nI_tc, n_leT, n_leF, n_ltT, n_ltF, n_eqT, n_eqF, or_self, or_false, false_or, ↓reduceIte, ↓qz_letL, ↓qz_letI, qz_oc_s, qz_oc_n, Option.bind_some, ne10, not_false_eq_true, l_x, ↓bd (E_held hC hp t4), l_le]
    refine GoC.call (E_take hC hp t4 ha) KM.rf (fun N1 hC k1 => ?_)
    have e151 : (if b = 1 then fE_order_151 N1 (lN q) (lN l) (1 : Int32) (nI p) 0 else fE_order_151 N1 (lN q) (lN l) (0 : Int32) (nI p) 0) = fE_order_151 N1 (lN q) (lN l) (nI b) (nI p) 0 := by
      rcases (show b = 0 ∨ b = 1 by omega) with rfl | rfl
      · rfl
      · rfl
    show GoC N (if b = 1 then fE_order_151 N1 (lN q) (lN l) (1 : Int32) (nI p) 0 else fE_order_151 N1 (lN q) (lN l) (0 : Int32) (nI p) 0) _ _
    rw [e151]
    unfold fE_order_151
    refine GoC.call (E_put hC (n := S 18 0 0) (p := p) (b := b) (q := q) (l := l) (by rw [u3_f (by decide)]) (by omega) nb) k1 (fun N1 hC k1 => GoC.st (GoC.ret hC k1) ?_)
    unfold stO
    simp (disch := omega) only [u3_lt]
  · obtain ⟨N2, e, hM2, k2, r2, r3, r4⟩ := eM2 N1 hM
    rw [e]
    unfold fM_order_122
    refine GoM.eq (M_has hM2 hp t4) ?_
    have eh := M_heldX (by omega) (by omega) q3 l3 r2 r3 r4
    rw [← hg] at eh
    refine GoM.eq eh ?_
    show GoM N1 (if lN g ≤ lN (S 0 p t) then _ else _) _ _
    rw [ifc (l_le (by omega) (by omega)), if_pos ha, if_neg (nI_ok (n := 40) (by omega) (by decide)), nI_tc (by omega)]
    show GoM N1 (qz_let (qz_si N2 35 0 (S 18 0 0) (nI p)) _) _ _
    rw [qz_let_eq]
    have hM3 := RM.slotI (c := 35) (k := S 18 0 0) (v := nI p) (Or.inl rfl) (Nat.le_refl _) hM2
    have eh2 := M_heldX (N := qz_si N2 35 0 (S 18 0 0) (nI p)) (n := S 18 0 0) (b := b) (q := q) (l := l) (by omega) (by omega) q3 l3 (by rw [qz_gi_si, if_neg (by omega)]; exact r2) r3 r4
    rw [← hg] at eh2
    refine GoM.eq eh2 ?_
    refine GoM.eq (M_giveX hM3 hp t4 (lN_addneg ha)) ?_
    have hM4 := wM0 hM3 p t (S 0 p t - g) hp t4
    show GoM N1 (qz_let (qz_si (qz_sl (qz_si N2 35 0 (S 18 0 0) (nI p)) 22 0 (4 * p + t) (lN (S 0 p t - g))) 7 0 17 (qz_gi (qz_sl (qz_si N2 35 0 (S 18 0 0) (nI p)) 22 0 (4 * p + t) (lN (S 0 p t - g))) 7 0 17 + 1)) _) _ _
    rw [rM18 hM4, u3_f (by decide), nI_p1]
    have hM5 := RM.ord (n := S 18 0 0) (p := p) (b := b) (q := q) (l := l) hM4 (by rw [u3_f (by decide)]) (by rw [qz_gi_sl, qz_gi_si, if_pos ⟨rfl, rfl, rfl⟩]) (by rw [qz_gi_sl, qz_gi_si, if_neg (by omega)]; exact r2) (by rw [qz_gl_sl, if_neg (by omega), qz_gl_si]; exact r3) (by rw [qz_gl_sl, if_neg (by omega), qz_gl_si]; exact r4)
    exact GoM.wr hM5 (((k2.tr (KC.si (by decide))).tr (KC.sl (by decide))).tr (KC.si (by decide))) (fun N3 hM k1 => GoM.ret hM k1)
def stp (r v : Nat) : Nat := min 1000000000000 (v + v * r / 1000000000)
def vit (r : Nat) : Nat → Nat → Nat
  | 0, v => v
  | n + 1, v => stp r (vit r n v)
theorem vit_s (r n v : Nat) : vit r (n + 1) v = stp r (vit r n v) := rfl
theorem stp_le (r v : Nat) : stp r v ≤ 1000000000000 := Nat.min_le_left _ _
theorem stp_ge {r v : Nat} (h : v ≤ 1000000000000) : v ≤ stp r v := by unfold stp; omega
theorem vit_b {r v : Nat} (h : v ≤ 1000000000000) (n : Nat) : v ≤ vit r n v ∧ vit r n v ≤ 1000000000000 := by
  induction n with
  | zero => exact ⟨Nat.le_refl _, h⟩
  | succ n ih =>
    rw [vit_s]
    have := stp_ge (r := r) ih.2
    exact ⟨by omega, stp_le _ _⟩
theorem stp_0 {v : Nat} (h : v ≤ 1000000000000) : stp 0 v = v := by
  unfold stp; rw [Nat.mul_zero, Nat.zero_div, Nat.add_zero]; omega
theorem stp_m {r v : Nat} (h : 1000000000000 ≤ v) : stp r v = 1000000000000 := by
  unfold stp; omega
theorem vit_stay {r v s : Nat} (h : stp r (vit r s v) = vit r s v) : ∀ n, s ≤ n → vit r n v = vit r s v := by
  intro n hn
  induction n with
  | zero => have : s = 0 := by omega
            rw [this]
  | succ n ih =>
    by_cases c : s = n + 1
    · rw [c]
    · rw [vit_s, ih (by omega), h]
def pr (S : St) (i : Nat) : Nat := 1000 * S 7 i 1 / S 7 i 0
abbrev live (S : St) (i : Nat) : Prop := i < S 3 0 0 ∧ S 7 i 0 ≠ 0 ∧ S 7 i 1 ≠ 0
def tkG (S : St) (P V : Nat → Nat) (C : Nat) : St := fun f i j => if f = 10 ∧ j = 0 ∧ live S i then S 10 i 0 + P i * pr S i else if f = 11 ∧ j = 0 ∧ live S i then S 11 i 0 + P i else if f = 29 ∧ j = 0 ∧ i < 4 then vit (S 30 i 0) (V i) (S 29 i 0) else if f = 37 ∧ i = 0 ∧ j = 0 then S 37 0 0 + C else S f i j
theorem tk_f {S : St} {P V : Nat → Nat} {C f : Nat} (h10 : f ≠ 10) (h11 : f ≠ 11) (h29 : f ≠ 29) (h37 : f ≠ 37) : tkG S P V C f = S f := by
  funext i j
  unfold tkG
  rw [if_neg (fun z => h10 z.1), if_neg (fun z => h11 z.1), if_neg (fun z => h29 z.1), if_neg (fun z => h37 z.1)]
theorem tk_0 {S : St} {P V : Nat → Nat} (hP : ∀ i, i < S 3 0 0 → P i = 0) (hV : ∀ i, i < 4 → V i = 0) : tkG S P V 0 = S := by
  funext f i j
  unfold tkG
  by_cases c1 : f = 10 ∧ j = 0 ∧ live S i
  · rw [if_pos c1, hP i c1.2.2.1, c1.1, c1.2.1, Nat.zero_mul]; rfl
  · rw [if_neg c1]
    by_cases c2 : f = 11 ∧ j = 0 ∧ live S i
    · rw [if_pos c2, hP i c2.2.2.1, c2.1, c2.2.1]; rfl
    · rw [if_neg c2]
      by_cases c3 : f = 29 ∧ j = 0 ∧ i < 4
      · rw [if_pos c3, hV i c3.2.2, c3.1, c3.2.1]; rfl
      · rw [if_neg c3]
        by_cases c4 : f = 37 ∧ i = 0 ∧ j = 0
        · rw [if_pos c4, c4.1, c4.2.1, c4.2.2]; rfl
        · rw [if_neg c4]
theorem tk_congr {S : St} {P P' V V' : Nat → Nat} {C : Nat} (hP : ∀ i, i < S 3 0 0 → P i = P' i) (hV : ∀ i, i < 4 → V i = V' i) : tkG S P V C = tkG S P' V' C := by
  funext f i j
  unfold tkG
  by_cases c1 : f = 10 ∧ j = 0 ∧ live S i
  · rw [if_pos c1, if_pos c1, hP i c1.2.2.1]
  · rw [if_neg c1, if_neg c1]
    by_cases c2 : f = 11 ∧ j = 0 ∧ live S i
    · rw [if_pos c2, if_pos c2, hP i c2.2.2.1]
    · rw [if_neg c2, if_neg c2]
      by_cases c3 : f = 29 ∧ j = 0 ∧ i < 4
      · rw [if_pos c3, if_pos c3, hV i c3.2.2]
      · rw [if_neg c3, if_neg c3]
theorem tk_10 {S : St} {P V : Nat → Nat} {C i : Nat} (h : live S i) : tkG S P V C 10 i 0 = S 10 i 0 + P i * pr S i := by
  unfold tkG; rw [if_pos ⟨rfl, rfl, h⟩]
theorem tk_11 {S : St} {P V : Nat → Nat} {C i : Nat} (h : live S i) : tkG S P V C 11 i 0 = S 11 i 0 + P i := by
  unfold tkG; rw [if_neg (by omega), if_pos ⟨rfl, rfl, h⟩]
theorem tk_29 {S : St} {P V : Nat → Nat} {C i : Nat} (h : i < 4) : tkG S P V C 29 i 0 = vit (S 30 i 0) (V i) (S 29 i 0) := by
  unfold tkG; rw [if_neg (by omega), if_neg (by omega), if_pos ⟨rfl, rfl, h⟩]
theorem tk_37 {S : St} {P V : Nat → Nat} {C : Nat} : tkG S P V C 37 0 0 = S 37 0 0 + C := by
  unfold tkG; rw [if_neg (by omega), if_neg (by omega), if_neg (by omega), if_pos ⟨rfl, rfl, rfl⟩]
theorem tk_pool {S : St} {P P' V : Nat → Nat} {C a m : Nat} (hl : live S a) (hm : P' a = m) (hP : ∀ i, i ≠ a → P' i = P i) : qz_u3 (qz_u3 (tkG S P V C) 10 a 0 (S 10 a 0 + m * pr S a)) 11 a 0 (S 11 a 0 + m) = tkG S P' V C := by
  funext f i j
  by_cases c0 : i = a ∧ j = 0
  · obtain ⟨rfl, rfl⟩ := c0
    by_cases c1 : f = 10
    · subst c1
      rw [u3_f (by decide), u3_s, tk_10 hl, hm]
    · by_cases c2 : f = 11
      · subst c2
        rw [u3_s, tk_11 hl, hm]
      · rw [u3_f c2, u3_f c1]
        unfold tkG
        have k1 : ¬ (f = 10 ∧ 0 = 0 ∧ live S i) := fun z => c1 z.1
        have k2 : ¬ (f = 11 ∧ 0 = 0 ∧ live S i) := fun z => c2 z.1
        rw [if_neg k1, if_neg k2, if_neg k1, if_neg k2]
  · have e : qz_u3 (qz_u3 (tkG S P V C) 10 a 0 (S 10 a 0 + m * pr S a)) 11 a 0 (S 11 a 0 + m) f i j = tkG S P V C f i j := by
      unfold qz_u3
      rw [if_neg (fun z => c0 z.2), if_neg (fun z => c0 z.2)]
    rw [e]
    unfold tkG
    by_cases c1 : j = 0
    · rw [hP i (fun z => c0 ⟨z, c1⟩)]
    · have k1 : ¬ (f = 10 ∧ j = 0 ∧ live S i) := fun z => c1 z.2.1
      have k2 : ¬ (f = 11 ∧ j = 0 ∧ live S i) := fun z => c1 z.2.1
      rw [if_neg k1, if_neg k2, if_neg k1, if_neg k2]
theorem tk_dead {S : St} {P P' V : Nat → Nat} {C a : Nat} (hl : ¬ live S a) (hP : ∀ i, i ≠ a → P' i = P i) : tkG S P V C = tkG S P' V C := by
  funext f i j
  unfold tkG
  by_cases c : i = a
  · subst c
    have k1 : ¬ (f = 10 ∧ j = 0 ∧ live S i) := fun z => hl z.2.2
    have k2 : ¬ (f = 11 ∧ j = 0 ∧ live S i) := fun z => hl z.2.2
    rw [if_neg k1, if_neg k2, if_neg k1, if_neg k2]
  · rw [hP i c]
theorem tk_vault {S : St} {P V V' : Nat → Nat} {C a w : Nat} (h4 : a < 4) (hw : w = vit (S 30 a 0) (V' a) (S 29 a 0)) (hV : ∀ i, i ≠ a → V' i = V i) : qz_u3 (tkG S P V C) 29 a 0 w = tkG S P V' C := by
  funext f i j
  by_cases c0 : f = 29 ∧ i = a ∧ j = 0
  · obtain ⟨rfl, rfl, rfl⟩ := c0
    rw [u3_s, tk_29 h4, hw]
  · have e : qz_u3 (tkG S P V C) 29 a 0 w f i j = tkG S P V C f i j := by
      unfold qz_u3; rw [if_neg c0]
    rw [e]
    unfold tkG
    by_cases c1 : f = 29 ∧ j = 0 ∧ i < 4
    · rw [hV i (fun z => c0 ⟨c1.1, z, c1.2.1⟩)]
    · rw [if_neg c1, if_neg c1]
theorem tk_clock {S : St} {P V : Nat → Nat} {C C' : Nat} : qz_u3 (tkG S P V C) 37 0 0 (S 37 0 0 + C') = tkG S P V C' := by
  funext f i j
  by_cases c0 : f = 37 ∧ i = 0 ∧ j = 0
  · obtain ⟨rfl, rfl, rfl⟩ := c0
    rw [u3_s, tk_37]
  · have e : qz_u3 (tkG S P V C) 37 0 0 (S 37 0 0 + C') f i j = tkG S P V C f i j := by
      unfold qz_u3; rw [if_neg c0]
    rw [e]
    unfold tkG
    rw [if_neg c0, if_neg c0]
theorem pr_b {S : St} {c i : Nat} (ok : Ok c S) (hi : i < 6) : pr S i ≤ 100000000000000000 ∧ 1000 * S 7 i 1 ≤ 100000000000000000 := by
  have b1 := ok.res hi (j := 1) (by decide)
  have : pr S i ≤ 1000 * S 7 i 1 := Nat.div_le_self _ _
  omega
theorem ok_tick {S : St} {c n : Nat} (ok : Ok c S) (hn : n ≤ 1000) : Ok (c + 1) (tkG S (fun _ => n) (fun _ => n) n) := by
  have prb := fun i hi => (pr_b (i := i) ok hi).1
  have h6 := ok.np
  obtain ⟨h1, h2, h3, h4, h5, h6', h7⟩ := ok
  unfold Ok
  simp (disch := omega) only [tk_f]
  refine ⟨h1, h2, h3, h4, ?_, ?_, h7⟩
  · obtain ⟨a1, a2, a3⟩ := h5
    have e11 : ∀ q, tkG S (fun _ => n) (fun _ => n) n 11 q 0 = if live S q then S 11 q 0 + n else S 11 q 0 := by
      intro q
      by_cases g : live S q
      · rw [tk_11 g, if_pos g]
      · rw [if_neg g]; unfold tkG; rw [if_neg (fun z => g z.2.2), if_neg (fun z => g z.2.2), if_neg (by omega), if_neg (by omega)]
    have e10 : ∀ q, tkG S (fun _ => n) (fun _ => n) n 10 q 0 = if live S q then S 10 q 0 + n * pr S q else S 10 q 0 := by
      intro q
      by_cases g : live S q
      · rw [tk_10 g, if_pos g]
      · rw [if_neg g]; unfold tkG; rw [if_neg (fun z => g z.2.2), if_neg (fun z => g z.2.2), if_neg (by omega), if_neg (by omega)]
    unfold O5
    rw [tk_37]
    refine ⟨by omega, fun q hq => ?_, fun k hk => ?_⟩
    · rw [e11]
      have := a2 q hq
      split <;> omega
    · obtain ⟨b1, b2, b3⟩ := a3 k hk
      refine ⟨b1, b2, fun z => ?_⟩
      obtain ⟨d1, d2, d3, d4⟩ := b3 z
      rw [e11, e10]
      by_cases g : live S (S 13 k 0)
      · rw [if_pos g, if_pos g]
        have hp : n * pr S (S 13 k 0) ≤ n * 100000000000000000 := Nat.mul_le_mul_left n (prb _ b2)
        refine ⟨d1, by omega, by omega, ?_⟩
        omega
      · rw [if_neg g, if_neg g]
        exact ⟨d1, d2, d3, d4⟩
  · intro t ht
    obtain ⟨a1, a2, a3, a4, a5⟩ := h6' t ht
    rw [tk_29 ht]
    have hv := vit_b (r := S 30 t 0) a2 n
    refine ⟨by omega, by omega, a3, a4, Nat.le_trans a5 (Nat.add_le_add_left ?_ _)⟩
    unfold cD
    refine sg_mono (fun l hl => ?_)
    show (if S 31 l 0 ≠ 0 ∧ dt (S 4) (S 33) (S 34) l = t then cdiv (S 36 l 0 * S 29 (dt (S 4) (S 33) (S 34) l) 0) 1000000000 else 0) ≤ (if S 31 l 0 ≠ 0 ∧ dt (S 4) (S 33) (S 34) l = t then cdiv (S 36 l 0 * tkG S (fun _ => n) (fun _ => n) n 29 (dt (S 4) (S 33) (S 34) l) 0) 1000000000 else 0)
    by_cases c1 : S 31 l 0 ≠ 0 ∧ dt (S 4) (S 33) (S 34) l = t
    · rw [if_pos c1, if_pos c1, c1.2, tk_29 ht]
      have := Nat.mul_le_mul_left (S 36 l 0) hv.1
      unfold cdiv
      exact Nat.div_le_div_right (by omega)
    · rw [if_neg c1, if_neg c1]; exact Nat.le_refl _
theorem E_grow {N N0 : qz_N} {S : St} {P P' V : Nat → Nat} {C c a n : Nat} (hC : RC N (tkG S P V C)) (k0 : KM N0 N) (ok : Ok c S) (ha : a < S 3 0 0) (hn : n ≤ 1000) (h0 : P a = 0) (hm : P' a = n) (hP : ∀ i, i ≠ a → P' i = P i) : GoC N0 (fP_grow a (nI n) N) () (tkG S P' V C) := by
  have h6 := ok.np
  have ha6 : a < 6 := by omega
  have b0 := ok.res ha6 (j := 0) (by decide)
  have b1 := ok.res ha6 (j := 1) (by decide)
  have e7 : tkG S P V C 7 = S 7 := tk_f (by decide) (by decide) (by decide) (by decide)
  have r0 : qz_gl N 2 a 5 = lN (S 7 a 0) := by rw [rC7a hC a ha6, e7]
  have r1 : qz_gl N 2 a 6 = lN (S 7 a 1) := by rw [rC7b hC a ha6, e7]
  unfold fP_grow
  rw [r0, r1, ifc (l_le0 (by omega)), ifc (l_le0 (by omega))]
  by_cases z0 : S 7 a 0 = 0
  · rw [if_pos z0]
    exact GoC.st (GoC.ret hC k0) (tk_dead (fun z => z.2.1 z0) hP)
  rw [if_neg z0]
  by_cases z1 : S 7 a 1 = 0
  · rw [if_pos z1]
    exact GoC.st (GoC.ret hC k0) (tk_dead (fun z => z.2.2 z1) hP)
  have hl : live S a := ⟨ha, z0, z1⟩
  rw [if_neg z1, if_neg (by rw [l_0, l_eq (by omega) (by omega)]; exact z0), l_x (by omega), l_k, lN_mul, l_div (by omega) (by omega) (by omega), lN_mul, rC10 hC a ha6, tk_10 hl, h0, Nat.zero_mul, Nat.add_zero, lN_add]
  refine GoC.wr (wC10 hC a (S 10 a 0 + n * (1000 * S 7 a 1 / S 7 a 0)) ha6) (k0.tr (KM.sl (by decide))) (fun N1 hC k1 => ?_)
  rw [rC11 hC a ha6, u3_f (by decide), tk_11 hl, h0, Nat.add_zero, lN_add]
  refine GoC.wr (wC11 hC a (S 11 a 0 + n) ha6) (k1.tr (KM.sl (by decide))) (fun N1 hC k1 => GoC.st (GoC.ret hC k1) ?_)
  exact tk_pool hl hm hP
theorem E_vgrow {N N0 : qz_N} {S : St} {P V : Nat → Nat} {C c a n : Nat} (hC : RC N (tkG S P V C)) (k0 : KM N0 N) (ok : Ok c S) (ha : a < 4) (hn : n ≤ 1000) (h0 : V a = 0) {V' : Nat → Nat} (hm : V' a = n) (hV : ∀ i, i ≠ a → V' i = V i) : GoC N0 (fV_grow a (nI n) N) () (tkG S P V' C) := by
  obtain ⟨a1, a2, a3, a4, a5⟩ := ok.2.2.2.2.2.1 a ha
  unfold fV_grow fV_grow_2
  have stop : ∀ s, s ≤ n → stp (S 30 a 0) (vit (S 30 a 0) s (S 29 a 0)) = vit (S 30 a 0) s (S 29 a 0) → tkG S P (fun i => if i = a then s else V i) C = tkG S P V' C := by
    intro s hs h
    have e := vit_stay h n hs
    funext f i j
    unfold tkG
    by_cases c3 : f = 29 ∧ j = 0 ∧ i < 4
    · have k1 : ¬ (f = 10 ∧ j = 0 ∧ live S i) := by omega
      have k2 : ¬ (f = 11 ∧ j = 0 ∧ live S i) := by omega
      rw [if_neg k1, if_neg k2, if_pos c3, if_neg k1, if_neg k2, if_pos c3]
      show vit (S 30 i 0) (if i = a then s else V i) (S 29 i 0) = vit (S 30 i 0) (V' i) (S 29 i 0)
      by_cases c4 : i = a
      · rw [if_pos c4, c4, hm, e]
      · rw [if_neg c4, hV i c4]
    · rw [if_neg c3, if_neg c3]
  refine lpP (P := fun m => GoC N0 m () (tkG S P V' C)) (fun s x => ∃ N1, RC N1 (tkG S P (fun i => if i = a then s else V i) C) ∧ KM N0 N1 ∧ x = (N1, nI n, nI s)) n ?_ ?_ n 0 1100 _ (by omega) (by omega) ⟨N, ?_, k0, rfl⟩
  · rintro s x hs ⟨N1, hC, k1, rfl⟩ k hk
    show GoC N0 (fV_grow_2b a k N1 (nI n) (nI s)) () _
    have vb := vit_b (r := S 30 a 0) a2 s
    have e30 : tkG S P (fun i => if i = a then s else V i) C 30 = S 30 := tk_f (by decide) (by decide) (by decide) (by decide)
    have mb : vit (S 30 a 0) s (S 29 a 0) * S 30 a 0 ≤ 1000000000000 * 1000000 := Nat.mul_le_mul vb.2 a3
    unfold fV_grow_2b
    rw [ifc (ix_le (by omega) (by omega)), if_neg (by omega), rC30 hC a ha, e30, rC29 hC a ha, tk_29 ha, if_pos rfl, ifc (l_le0 (by omega)), l_t, ifc (l_le (by omega) (by omega))]
    by_cases z : S 30 a 0 = 0
    · rw [if_pos z]
      exact GoC.st (GoC.ret hC k1) (stop s (by omega) (by rw [z]; exact stp_0 (by rw [z] at vb; exact vb.2)))
    rw [if_neg z]
    by_cases g : 1000000000000 ≤ vit (S 30 a 0) s (S 29 a 0)
    · rw [if_pos g]
      exact GoC.st (GoC.ret hC k1) (stop s (by omega) (by rw [stp_m g]; omega))
    rw [if_neg g, l_g, lN_mul, l_div (by omega) (by decide) (by decide), lN_add, ifc (l_lt (by omega) (by omega)), l_ite]
    have es : (if vit (S 30 a 0) s (S 29 a 0) + vit (S 30 a 0) s (S 29 a 0) * S 30 a 0 / 1000000000 < 1000000000000 then vit (S 30 a 0) s (S 29 a 0) + vit (S 30 a 0) s (S 29 a 0) * S 30 a 0 / 1000000000 else 1000000000000) = vit (S 30 a 0) (s + 1) (S 29 a 0) := by
      rw [vit_s]; unfold stp; split <;> omega
    rw [es]
    refine GoC.wr (wC29 hC a _ ha) (k1.tr (KM.sl (by decide))) (fun N2 hC k2 => ?_)
    rw [qz_let_eq, nI_p1]
    refine hk _ ⟨N2, ?_, k2, rfl⟩
    rw [tk_vault (V' := fun i => if i = a then s + 1 else V i) ha (by rw [if_pos rfl]) (fun i hi => by show (if i = a then s + 1 else V i) = if i = a then s else V i; rw [if_neg hi, if_neg hi])] at hC
    exact hC
  · rintro x ⟨N1, hC, k1, rfl⟩ k
    show GoC N0 (fV_grow_2b a k N1 (nI n) (nI n)) () _
    unfold fV_grow_2b
    rw [ifc (ix_le (by omega) (by omega)), if_pos (Nat.le_refl _)]
    refine GoC.st (GoC.ret hC k1) (tk_congr (fun _ _ => rfl) (fun i _ => ?_))
    by_cases c4 : i = a
    · rw [if_pos c4, c4, hm]
    · rw [if_neg c4, hV i c4]
  · rw [show tkG S P (fun i => if i = a then 0 else V i) C = tkG S P V C from tk_congr (fun _ _ => rfl) (fun i _ => by
      by_cases c4 : i = a
      · rw [if_pos c4, c4, h0]
      · rw [if_neg c4])]
    exact hC
theorem E_ticks {N : qz_N} {S : St} {c n : Nat} (ok : Ok c S) (hC : RC N S) (hcl : c ≤ 1000) (hn : n ≤ 1000) : GoC N (fE_tick_16 0 1100 (N, nI n, 0)) (nI (S 37 0 0 + n)) (tkG S (fun _ => n) (fun _ => n) n) := by
  have h6 := ok.np
  have hcl : S 37 0 0 ≤ 1000 * c := ok.2.2.2.2.1.1
  unfold fE_tick_16
  refine lpP (P := fun m => GoC N m (nI (S 37 0 0 + n)) (tkG S (fun _ => n) (fun _ => n) n)) (fun s x => ∃ N1, RC N1 (tkG S (fun i => if i < s then n else 0) (fun _ => 0) 0) ∧ KM N N1 ∧ x = (N1, nI n, nI s)) (S 3 0 0) ?_ ?_ (S 3 0 0) 0 1100 _ (by omega) (by omega) ⟨N, ?_, KM.rf, rfl⟩
  · rintro s x hs ⟨N1, hC, k1, rfl⟩ k hk
    show GoC N (fE_tick_16b 0 k N1 (nI n) (nI s)) _ _
    unfold fE_tick_16b
    rw [rC3 hC, tk_f (by decide) (by decide) (by decide) (by decide), ifc (ix_le (by omega) (by omega)), if_neg (by omega), if_neg (nI_ok (n := 6) (by omega) (by decide)), nI_tc (by omega)]
    refine GoC.call (E_grow (P' := fun i => if i < s + 1 then n else 0) hC KM.rf ok hs hn (by rw [if_neg (by omega)]) (by rw [if_pos (by omega)]) (fun i hi => ?_)) k1 (fun N2 hC k2 => ?_)
    · by_cases c1 : i < s
      · rw [if_pos c1, if_pos (by omega)]
      · rw [if_neg c1, if_neg (by omega)]
    · rw [qz_let_eq, nI_p1]
      exact hk _ ⟨N2, hC, k2, rfl⟩
  · rintro x ⟨N1, hC, k1, rfl⟩ k
    show GoC N (fE_tick_16b 0 k N1 (nI n) (nI (S 3 0 0))) _ _
    unfold fE_tick_16b
    rw [rC3 hC, tk_f (by decide) (by decide) (by decide) (by decide), ifc (ix_le (by omega) (by omega)), if_pos (Nat.le_refl _)]
    unfold fE_tick_42
    refine lpP (P := fun m => GoC N m (nI (S 37 0 0 + n)) (tkG S (fun _ => n) (fun _ => n) n)) (fun s x => ∃ N1, RC N1 (tkG S (fun i => if i < S 3 0 0 then n else 0) (fun i => if i < s then n else 0) 0) ∧ KM N N1 ∧ x = (N1, nI n, nI s)) 4 ?_ ?_ 4 0 1100 _ (by decide) (by decide) ⟨N1, ?_, k1, rfl⟩
    · rintro s x hs ⟨N1, hC, k1, rfl⟩ k hk
      show GoC N (fE_tick_42b 0 k N1 (nI n) (nI s)) _ _
      unfold fE_tick_42b
      rw [i_4, ifc (ix_le (by omega) (by omega)), if_neg (by omega), if_neg (nI_ok (n := 4) (by omega) (by decide)), nI_tc (by omega)]
      refine GoC.call (E_vgrow (V' := fun i => if i < s + 1 then n else 0) hC KM.rf ok hs hn (by rw [if_neg (by omega)]) (by rw [if_pos (by omega)]) (fun i hi => ?_)) k1 (fun N2 hC k2 => ?_)
      · by_cases c1 : i < s
        · rw [if_pos c1, if_pos (by omega)]
        · rw [if_neg c1, if_neg (by omega)]
      · rw [qz_let_eq, nI_p1]
        exact hk _ ⟨N2, hC, k2, rfl⟩
    · rintro x ⟨N1, hC, k1, rfl⟩ k
      show GoC N (fE_tick_42b 0 k N1 (nI n) (nI 4)) _ _
      unfold fE_tick_42b
      rw [if_pos (by decide), rC37 hC, tk_37, Nat.add_zero, nI_add]
      refine GoC.wr (wC37 hC (S 37 0 0 + n)) (k1.tr (KM.si (by decide))) (fun N2 hC k2 => ?_)
      rw [rC37 hC, u3_s]
      refine GoC.st (GoC.ret hC k2) ?_
      rw [tk_clock]
      exact tk_congr (fun i hi => if_pos hi) (fun i hi => if_pos hi)
    · exact hC
  · rw [tk_0 (fun i _ => if_neg (by omega)) (fun i _ => rfl)]
    exact hC
theorem M_once {N N0 : qz_N} {S : St} {c s : Nat} (ok : Ok c S) (hM : RM N (tkG S (fun _ => s) (fun _ => s) s)) (k0 : KC N0 N) : GoM N0 (fM_tickOnce 0 N) () (tkG S (fun _ => s + 1) (fun _ => s + 1) (s + 1)) := by
  have h6 := ok.np
  unfold fM_tickOnce
  rw [rM37 hM, tk_37, nI_p1, Nat.add_assoc]
  refine GoM.wr (wM37 hM (S 37 0 0 + (s + 1))) (k0.tr (KC.si (by decide))) (fun N1 hM k1 => ?_)
  rw [tk_clock] at hM
  unfold fM_tickOnce_12
  refine lpP (P := fun m => GoM N0 m () (tkG S (fun _ => s + 1) (fun _ => s + 1) (s + 1))) (fun a x => ∃ N1, RM N1 (tkG S (fun i => if i < a then s + 1 else s) (fun _ => s) (s + 1)) ∧ KC N0 N1 ∧ x = (N1, nI a)) (S 3 0 0) ?_ ?_ (S 3 0 0) 0 1100 _ (by omega) (by omega) ⟨N1, ?_, k1, rfl⟩
  · rintro a x ha ⟨N1, hM, k1, rfl⟩ k hk
    show GoM N0 (fM_tickOnce_12b 0 k N1 (nI a)) _ _
    have ha6 : a < 6 := by omega
    have b0 := ok.res ha6 (j := 0) (by decide)
    have b1 := ok.res ha6 (j := 1) (by decide)
    have e7 : tkG S (fun i => if i < a then s + 1 else s) (fun _ => s) (s + 1) 7 = S 7 := tk_f (by decide) (by decide) (by decide) (by decide)
    have e3 : tkG S (fun i => if i < a then s + 1 else s) (fun _ => s) (s + 1) 3 = S 3 := tk_f (by decide) (by decide) (by decide) (by decide)
    have r0 : qz_gl N1 27 0 (2 * a) = lN (S 7 a 0) := by rw [rM7a hM a ha6, e7]
    have r1 : qz_gl N1 27 0 (2 * a + 1) = lN (S 7 a 1) := by rw [rM7 hM a 1 ha6 (by decide), e7]
    have hP : ∀ i, i ≠ a → (if i < a + 1 then s + 1 else s) = (if i < a then s + 1 else s) := by
      intro i hi
      by_cases c1 : i < a
      · rw [if_pos c1, if_pos (by omega)]
      · rw [if_neg c1, if_neg (by omega)]
    simp (disch := omega) only [fM_tickOnce_12b, fM_tickOnce_90, rM3 hM, e3, ix_2m, ix_6m, ix_4m, ix_m4, ix_1s, ix_s, ix_s2, ix_s9, ix_s7, ix_s5, ix_s1, nI_add, nI_p1, ix_n, ix_z, ix_1, ix_eq, ix_le, ix_lt, ix_le0, nI_tc, n_leT, n_leF, n_ltT, n_ltF, n_eqT, n_eqF, or_self, or_false, false_or, ↓reduceIte, ↓qz_letL, ↓qz_letI, qz_oc_s, qz_oc_n, Option.bind_some, ne10, not_false_eq_true, l_x, r0, r1, l_0, l_le, l_eq, Nat.le_zero]
    have dead : ¬ live S a → GoM N0 (k (N1, nI (a + 1))) () (tkG S (fun _ => s + 1) (fun _ => s + 1) (s + 1)) := by
      intro hd
      refine hk _ ⟨N1, ?_, k1, rfl⟩
      rw [← tk_dead (P := fun i => if i < a then s + 1 else s) hd hP]
      exact hM
    by_cases z0 : S 7 a 0 = 0
    · rw [if_pos z0]
      exact dead (fun z => z.2.1 z0)
    rw [if_neg z0]
    by_cases z1 : S 7 a 1 = 0
    · rw [if_pos z1]
      exact dead (fun z => z.2.2 z1)
    have hl : live S a := ⟨ha, z0, z1⟩
    rw [if_neg z1, l_k, lN_mul, l_div (by omega) (by omega) (by omega), rM10 hM a ha6, tk_10 hl, if_neg (by omega), lN_add]
    have ee : S 10 a 0 + s * pr S a + 1000 * S 7 a 1 / S 7 a 0 = S 10 a 0 + (s + 1) * pr S a := by
      rw [Nat.add_mul s 1, Nat.one_mul]; unfold pr; omega
    rw [ee]
    refine GoM.wr (wM10 hM a (S 10 a 0 + (s + 1) * pr S a) ha6) (k1.tr (KC.sl (by decide))) (fun N2 hM k2 => ?_)
    rw [rM11 hM a ha6, u3_f (by decide), tk_11 hl, if_neg (by omega), l_1, lN_add, Nat.add_assoc]
    refine GoM.wr (wM11 hM a (S 11 a 0 + (s + 1)) ha6) (k2.tr (KC.sl (by decide))) (fun N3 hM k3 => ?_)
    rw [tk_pool (P' := fun i => if i < a + 1 then s + 1 else s) hl (by rw [if_pos (by omega)]) hP] at hM
    exact hk _ ⟨N3, hM, k3, rfl⟩
  · rintro x ⟨N1, hM, k1, rfl⟩ k
    show GoM N0 (fM_tickOnce_12b 0 k N1 (nI (S 3 0 0))) _ _
    unfold fM_tickOnce_12b
    rw [rM3 hM, tk_f (by decide) (by decide) (by decide) (by decide), ifc (ix_le (by omega) (by omega)), if_pos (Nat.le_refl _)]
    unfold fM_tickOnce_98
    refine lpP (P := fun m => GoM N0 m () (tkG S (fun _ => s + 1) (fun _ => s + 1) (s + 1))) (fun b x => ∃ N1, RM N1 (tkG S (fun i => if i < S 3 0 0 then s + 1 else s) (fun i => if i < b then s + 1 else s) (s + 1)) ∧ KC N0 N1 ∧ x = (N1, nI b)) 4 ?_ ?_ 4 0 1100 _ (by decide) (by decide) ⟨N1, ?_, k1, rfl⟩
    · rintro b x hb ⟨N1, hM, k1, rfl⟩ k hk
      show GoM N0 (fM_tickOnce_98b 0 k N1 (nI b)) _ _
      obtain ⟨a1, a2, a3, a4, a5⟩ := ok.2.2.2.2.2.1 b hb
      have vb := vit_b (r := S 30 b 0) a2 s
      have mb : vit (S 30 b 0) s (S 29 b 0) * S 30 b 0 ≤ 1000000000000 * 1000000 := Nat.mul_le_mul vb.2 a3
      have e30 : tkG S (fun i => if i < S 3 0 0 then s + 1 else s) (fun i => if i < b then s + 1 else s) (s + 1) 30 = S 30 := tk_f (by decide) (by decide) (by decide) (by decide)
      have ih : ¬ (nI b < 0 ∨ 4 ≤ (nI b).toNatClampNeg) := nI_ok (n := 4) hb (by decide)
      unfold fM_tickOnce_98b
      rw [i_4, ifc (ix_le (by omega) (by omega)), if_neg (by omega), if_neg ih, if_neg ih, if_neg ih, nI_tc (by omega), rM29 hM b hb, rM30 hM b hb, e30, tk_29 hb, if_neg (by omega), l_g, l_t, lN_mul, l_div (by omega) (by decide) (by decide), lN_add]
      have el : fM_least (lN 1000000000000) (lN (vit (S 30 b 0) s (S 29 b 0) + vit (S 30 b 0) s (S 29 b 0) * S 30 b 0 / 1000000000)) N1 = some (lN (vit (S 30 b 0) (s + 1) (S 29 b 0)), N1) := by
        unfold fM_least
        rw [ifc (l_le (by omega) (by omega)), vit_s]
        unfold stp
        split
        · rw [Nat.min_eq_right (by omega)]
        · rw [Nat.min_eq_left (by omega)]
      refine GoM.eq el ?_
      rw [if_neg (show ¬ (nI b < 0 ∨ 4 ≤ b) from fun z => z.elim (nI_pos (by omega)) (by omega))]
      refine GoM.wr (wM29 hM b _ hb) (k1.tr (KC.sl (by decide))) (fun N2 hM k2 => ?_)
      rw [qz_let_eq, nI_p1]
      refine hk _ ⟨N2, ?_, k2, rfl⟩
      rw [tk_vault (V' := fun i => if i < b + 1 then s + 1 else s) hb (by rw [if_pos (by omega)]) (fun i hi => ?_)] at hM
      · exact hM
      · by_cases c1 : i < b
        · rw [if_pos c1, if_pos (by omega)]
        · rw [if_neg c1, if_neg (by omega)]
    · rintro x ⟨N1, hM, k1, rfl⟩ k
      show GoM N0 (fM_tickOnce_98b 0 k N1 (nI 4)) _ _
      unfold fM_tickOnce_98b
      rw [if_pos (by decide)]
      exact GoM.st (GoM.ret hM k1) (tk_congr (fun i hi => if_pos hi) (fun i hi => if_pos hi))
    · exact hM
  · exact hM
theorem M_ticks {N : qz_N} {S : St} {c n : Nat} (ok : Ok c S) (hM : RM N S) (hn : n ≤ 1000) : GoM N (fM_tick_16 0 1100 (N, nI n, 0)) (nI (S 37 0 0 + n)) (tkG S (fun _ => n) (fun _ => n) n) := by
  unfold fM_tick_16
  refine lpP (P := fun m => GoM N m (nI (S 37 0 0 + n)) (tkG S (fun _ => n) (fun _ => n) n)) (fun s x => ∃ N1, RM N1 (tkG S (fun _ => s) (fun _ => s) s) ∧ KC N N1 ∧ x = (N1, nI n, nI s)) n ?_ ?_ n 0 1100 _ (by omega) (by omega) ⟨N, ?_, KC.rf, rfl⟩
  · rintro s x hs ⟨N1, hM, k1, rfl⟩ k hk
    show GoM N (fM_tick_16b 0 k N1 (nI n) (nI s)) _ _
    unfold fM_tick_16b
    rw [ifc (ix_le (by omega) (by omega)), if_neg (by omega)]
    refine GoM.call (M_once ok hM KC.rf) k1 (fun N2 hM k2 => ?_)
    rw [qz_let_eq, nI_p1]
    exact hk _ ⟨N2, hM, k2, rfl⟩
  · rintro x ⟨N1, hM, k1, rfl⟩ k
    show GoM N (fM_tick_16b 0 k N1 (nI n) (nI n)) _ _
    unfold fM_tick_16b
    rw [ifc (ix_le (by omega) (by omega)), if_pos (Nat.le_refl _), rM37 hM, tk_37]
    exact GoM.ret hM k1
  · rw [tk_0 (fun i _ => rfl) (fun i _ => rfl)]
    exact hM
theorem op_tick {N : qz_N} {S : St} {c : Nat} (hcl : c ≤ 1000) (ok : Ok c S) (hC : RC N S) (hM : RM N S) (x : Int32) : Alike N (fE_tick 0 x) (fM_tick 0 x) (Ok (c + 1)) := by
  rcases ixc x (n := 1001) (by decide) with hx | ⟨n, hn, rfl⟩
  · refine Alike.mk' (r := -2) hM (GoC.of ?_ hC) (fun N1 hM => GoM.of ?_ hM) ok.up
    · unfold fE_tick
      rcases hx with g | g
      · rw [if_pos g]
      · rw [if_neg (by rw [bg_n g (by decide)]; exact id), i_k, if_neg (by rw [bg_ge g (by decide) (by decide)]; exact id)]
    · unfold fM_tick
      rcases hx with g | g
      · rw [if_pos g]
      · rw [if_neg (by rw [bg_n g (by decide)]; exact id), i_k, if_neg (by rw [bg_ge g (by decide) (by decide)]; exact id)]
  · refine Alike.mk' (r := nI (S 37 0 0 + n)) hM ?_ (fun N1 hM => ?_) (ok_tick ok (n := n) (by omega))
    · unfold fE_tick
      rw [if_neg (nI_pos (by omega)), i_k, ifc (ix_le (by omega) (by decide)), if_pos (by omega)]
      exact E_ticks ok hC hcl (by omega)
    · unfold fM_tick
      rw [if_neg (nI_pos (by omega)), i_k, ifc (ix_le (by omega) (by decide)), if_pos (by omega)]
      exact M_ticks ok hM (by omega)
