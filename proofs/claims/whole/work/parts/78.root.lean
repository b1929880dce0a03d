-- pasted out of kit/laws/BITS
theorem wb_tb (n : Nat) : (lN n).toBitVec = BitVec.ofNat 64 n := rfl
theorem wb_inj {a b : Int64} (h : a.toBitVec = b.toBitVec) : a = b := Int64.toBitVec_inj.mp h
theorem wb_c : ∀ k, k < 64 → ((nI k).toInt64 &&& 63) = lN k := by decide +kernel
theorem wb_sm : ∀ k, k < 64 → (BitVec.ofNat 64 k).smod 64 = BitVec.ofNat 64 k := by decide +kernel
theorem wb_shl (n : Nat) {k : Nat} (hk : k < 64) : lN n <<< ((nI k).toInt64 &&& 63) = lN (n * 2 ^ k) := by
  rw [wb_c k hk]
  apply wb_inj
  rw [Int64.toBitVec_shiftLeft, wb_tb, wb_tb, wb_tb, wb_sm k hk]
  apply BitVec.eq_of_toNat_eq
  rw [BitVec.shiftLeft_eq', BitVec.toNat_shiftLeft, BitVec.toNat_ofNat, BitVec.toNat_ofNat, BitVec.toNat_ofNat, Nat.mod_eq_of_lt (show k < 2 ^ 64 by omega), Nat.shiftLeft_eq, Nat.mul_mod, Nat.mod_mod, ← Nat.mul_mod]
theorem u_tn {n : Nat} (h : n < 2 ^ 64) : (UInt64.ofNat n).toNat = n := Nat.mod_eq_of_lt h
theorem g_or {k p a b : Nat} (hp : 2 ^ k = p) (ha : a < p) (h : b * p + a < 2 ^ 64) : lN (b * p) ||| lN a = lN (b * p + a) := by
  subst hp
  have h1 : b * 2 ^ k ||| a = b * 2 ^ k + a := by rw [← Nat.shiftLeft_eq, Nat.shiftLeft_add_eq_or_of_lt ha]
  have h3 : UInt64.ofNat (b * 2 ^ k) ||| UInt64.ofNat a = UInt64.ofNat (b * 2 ^ k + a) := UInt64.toNat_inj.mp (by rw [UInt64.toNat_or, u_tn (by omega), u_tn (by omega), u_tn h, h1])
  have h2 := congrArg UInt64.toInt64 h3
  exact h2
theorem M_isAlike {N : qz_N} {U V : Nat} (hU : ar N 53 6 (dg U)) (hV : ar N 52 6 (dg V)) (hU6 : U < BB ^ 6) (hV6 : V < BB ^ 6) : fM_isAlike 0 N = some (if U = V then 1 else 0, N) := by
  have key : ∀ i, i ≤ 6 → ((∀ k, k < i → dg U k = dg V k) ↔ U % BB ^ i = V % BB ^ i) := by
    intro i hi
    rw [← psB_id, ← psB_id]
    constructor
    · intro h; exact psB_congr i h
    · intro h k hk
      have h1 := psB_dg BB_pos (dgB BB U) k i hk
      have h2 := psB_dg BB_pos (dgB BB V) k i hk
      rw [h] at h1
      have e1 := psB_id (B := BB) U i
      have e2 := psB_id (B := BB) V i
      have f1 : dgB BB (psB BB (dgB BB V) i) k = dgB BB V k := by
        rw [e2]; unfold dgB
        rw [show BB ^ i = BB ^ k * BB ^ (i - k) from by rw [← Nat.pow_add]; congr 1; omega, Nat.mod_mul_right_div_self, show BB ^ (i - k) = BB * BB ^ (i - k - 1) from by rw [← Nat.pow_succ']; congr 1; omega, Nat.mod_mul_right_mod]
      have f2 : dgB BB (psB BB (dgB BB U) i) k = dgB BB U k := by
        rw [e1]; unfold dgB
        rw [show BB ^ i = BB ^ k * BB ^ (i - k) from by rw [← Nat.pow_add]; congr 1; omega, Nat.mod_mul_right_div_self, show BB ^ (i - k) = BB * BB ^ (i - k - 1) from by rw [← Nat.pow_succ']; congr 1; omega, Nat.mod_mul_right_mod]
      show dgB BB U k = dgB BB V k
      rw [← f1, ← f2, h]
  unfold fM_isAlike fM_isAlike_4
  refine qz_loop_to (fun i a => i ≤ 6 ∧ ∃ x : Int32, a = (N, x, nI i) ∧ ((x = 1 ∧ ∀ k, k < i → dg U k = dg V k) ∨ (x = 0 ∧ ¬ ∀ k, k < i → dg U k = dg V k))) 6 (fun r => r = some (if U = V then 1 else 0, N)) ?_ ?_ 0 1100 _ (Nat.zero_le _) (by decide) ⟨by decide, 1, rfl, Or.inl ⟨rfl, fun q hq => absurd hq (Nat.not_lt_zero _)⟩⟩
  · rintro i a hi ⟨-, x, rfl, hx⟩ k
    left
    have h1 := dg_lt U i
    have h2 := dg_lt V i
    have h6 : ¬ nI 6 ≤ nI i := by rw [nI_le_lit (by omega) (by decide)]; omega
    have hc : (lN (dg U i) = lN (dg V i)) ↔ dg U i = dg V i := ⟨fun z => by have := congrArg uN z; rw [un_lN (by omega), un_lN (by omega)] at this; exact this, fun z => by rw [z]⟩
    rcases hx with ⟨rfl, c⟩ | ⟨rfl, c⟩
    · by_cases d : dg U i = dg V i
      · refine ⟨(N, 1, nI (i + 1)), ⟨by omega, 1, rfl, Or.inl ⟨rfl, fun q hq => ?_⟩⟩, ?_⟩
        · by_cases e : q = i
          · rw [e]; exact d
          · exact c q (by omega)
        · show fM_isAlike_4b 0 k N 1 (nI i) = _
          unfold fM_isAlike_4b
          rw [lit6, if_neg h6, if_neg (by decide), if_neg (nI_ok (n := 6) hi (by decide)), if_neg (nI_ok (n := 6) hi (by decide)), nI_tc (by omega), hU i hi, hV i hi, if_pos (hc.mpr d)]
          unfold fM_isAlike_35
          rw [qz_let_eq, nI_up]
      · refine ⟨(N, 0, nI (i + 1)), ⟨by omega, 0, rfl, Or.inr ⟨rfl, fun z => d (z i (by omega))⟩⟩, ?_⟩
        show fM_isAlike_4b 0 k N 1 (nI i) = _
        unfold fM_isAlike_4b
        rw [lit6, if_neg h6, if_neg (by decide), if_neg (nI_ok (n := 6) hi (by decide)), if_neg (nI_ok (n := 6) hi (by decide)), nI_tc (by omega), hU i hi, hV i hi, if_neg (fun z => d (hc.mp z))]
        unfold fM_isAlike_34 fM_isAlike_35
        rw [qz_let_eq, nI_up]
    · refine ⟨(N, 0, nI (i + 1)), ⟨by omega, 0, rfl, Or.inr ⟨rfl, fun z => c (fun q hq => z q (by omega))⟩⟩, ?_⟩
      show fM_isAlike_4b 0 k N 0 (nI i) = _
      unfold fM_isAlike_4b
      rw [lit6, if_neg h6, if_pos rfl]
      unfold fM_isAlike_34 fM_isAlike_35
      rw [qz_let_eq, nI_up]
  · rintro a ⟨-, x, rfl, hx⟩ k
    show fM_isAlike_4b 0 k N x (nI 6) = _
    unfold fM_isAlike_4b
    rw [if_pos (by decide)]
    have k6 := key 6 (Nat.le_refl _)
    rw [Nat.mod_eq_of_lt hU6, Nat.mod_eq_of_lt hV6] at k6
    rcases hx with ⟨rfl, c⟩ | ⟨rfl, c⟩
    · rw [if_pos (k6.mp c), if_pos (by decide)]
    · rw [if_neg (fun z => c (k6.mpr z)), if_pos (by decide)]
/-- the reference's root -/
theorem M_root {u v : Nat} (hu : u ≤ 100000000000000) (hv : v ≤ 100000000000000) (N : qz_N) : ∃ (r : Nat) (N' : qz_N), fM_root 0 (lN u) (lN v) N = some (lN r, N') ∧ Sc N N' ∧ isRoot (u * v) r := by
  have huv : u * v ≤ 100000000000000 * 100000000000000 := Nat.mul_le_mul hu hv
  have uu : uN (lN u) = u := un_lN (by omega)
  have uv : uN (lN v) = v := un_lN (by omega)
  obtain ⟨N1, e1, s1, a1, o1⟩ := M_begin (lN u) N
  rw [uu] at a1
  obtain ⟨N2, e2, s2, a2, o2⟩ := M_times (lN v) a1 (by rw [BB6]; omega)
  rw [uv] at a2
  obtain ⟨N3, e3, s3, a3, o3⟩ := M_keepBig a2
  have hloop : ∃ (r : Nat) (N' : qz_N), fM_root_21 0 1100 (N3, 0, 47) = some (lN r, N') ∧ Sc N N' ∧ isRoot (u * v) r := by
    unfold fM_root_21
    refine qz_loop_dn (fun i a => i ≤ 48 ∧ ∃ (N' : qz_N) (b : Nat), a = (N', lN (b * 2 ^ i), nI i - 1) ∧ Sc N N' ∧ ar N' 53 6 (dg (u * v)) ∧ b * 2 ^ i * (b * 2 ^ i) ≤ u * v ∧ u * v < (b * 2 ^ i + 2 ^ i) * (b * 2 ^ i + 2 ^ i) ∧ b * 2 ^ i + 2 ^ i ≤ 281474976710656) (fun x => ∃ (r : Nat) (N' : qz_N), x = some (lN r, N') ∧ Sc N N' ∧ isRoot (u * v) r) ?_ ?_ 48 1100 _ (by decide) ⟨Nat.le_refl _, N3, 0, ?_, (s1.tr s2).tr s3, a3, ?_, ?_, ?_⟩
    · rintro i a ⟨hi, N', b, rfl, hS, hA, h1, h2, h3⟩
      have e2 : 2 ^ (i + 1) = 2 ^ i * 2 := Nat.pow_succ 2 i
      have hp : 0 < 2 ^ i := Nat.two_pow_pos i
      have hpl : 2 ^ i < 18446744073709551616 := Nat.lt_of_le_of_lt (Nat.pow_le_pow_right (by decide) (show i ≤ 47 by omega)) (by decide)
      have eor : lN (b * 2 ^ (i + 1)) ||| ((1 : Int64) <<< ((nI i).toInt64 &&& 63)) = lN (b * 2 ^ (i + 1) + 2 ^ i) := by
        rw [lit1l, wb_shl 1 (by omega), Nat.one_mul]
        exact g_or (k := i + 1) rfl (by omega) (by omega)
      have ec : b * 2 ^ (i + 1) + 2 ^ i = (2 * b + 1) * 2 ^ i := by rw [e2]; grind
      have eb : b * 2 ^ (i + 1) = 2 * b * 2 ^ i := by rw [e2]; grind
      rw [eb] at h1 h2 h3 eor
      rw [eb] at ec
      rw [e2] at h2 h3
      rw [nI_m1, eb]
      have hn0 : ¬ nI i < 0 := nI_pos (by omega)
      generalize hC : 2 * b * 2 ^ i + 2 ^ i = C at *
      have hCl : C < 281474976710656 := by omega
      have uC : uN (lN C) = C := un_lN (by omega)
      obtain ⟨M1, f1, t1, b1, p1⟩ := M_begin (lN C) N'
      rw [uC] at b1
      obtain ⟨M2, f2, t2, b2, p2⟩ := M_times (lN C) b1 (by rw [BB6]; omega)
      rw [uC] at b2
      have hCC : C * C ≤ 281474976710656 * 281474976710656 := Nat.mul_le_mul (by omega) (by omega)
      have hA2 : ar M2 53 6 (dg (u * v)) := fun q hq => by rw [p2 53 0 q (by decide) (by decide) (by decide), p1 53 0 q (by decide)]; exact hA q hq
      have f3 := M_less hA2 b2 (by rw [BB6]; omega) (by rw [BB6]; omega)
      have hb : ∀ k, fM_root_21b 0 k N' (lN (2 * b * 2 ^ i)) (nI i) = k (M2, lN (if u * v < C * C then 2 * b * 2 ^ i else C), nI i - 1) := by
        intro k
        unfold fM_root_21b
        rw [if_neg hn0, qz_let_eq, eor]
        refine ob_some f1 (ob_some f2 (ob_some f3 ?_))
        by_cases c : u * v < C * C
        · rw [if_pos c, if_pos c]
          refine (if_neg (show ¬ (1 : Int32) = 0 by decide)).trans ?_
          unfold fM_root_61
          rw [qz_let_eq, nI_s1]
        · rw [if_neg c, if_neg c]
          refine (if_pos rfl).trans ?_
          unfold fM_root_61
          rw [qz_let_eq, nI_s1]
      by_cases c : u * v < C * C
      · rw [if_pos c] at hb
        exact ⟨_, ⟨by omega, M2, 2 * b, rfl, (hS.tr t1).tr t2, hA2, h1, by rw [hC]; exact c, by omega⟩, hb⟩
      · rw [if_neg c, ec] at hb
        refine ⟨_, ⟨by omega, M2, 2 * b + 1, rfl, (hS.tr t1).tr t2, hA2, by rw [← ec]; omega, ?_, ?_⟩, hb⟩
        · rw [← ec, ← hC, show 2 * b * 2 ^ i + 2 ^ i + 2 ^ i = 2 * b * 2 ^ i + 2 ^ i * 2 by omega]
          exact h2
        · rw [← ec]; omega
    · rintro a ⟨-, N', b, rfl, hS, hA, h1, h2, h3⟩ k
      rw [Nat.pow_zero, Nat.mul_one] at h1 h2 h3
      refine ⟨b, N', ?_, hS, h1, h2⟩
      show fM_root_21b 0 k N' (lN (b * 2 ^ 0)) (nI 0 - 1) = _
      unfold fM_root_21b
      rw [if_pos (by decide), Nat.pow_zero, Nat.mul_one]
    · rw [Nat.zero_mul, lN_0, show nI 48 - 1 = (47 : Int32) from by decide]
    · rw [Nat.zero_mul]; exact Nat.zero_le _
    · have : (100000000000000 : Nat) * 100000000000000 < (0 * 2 ^ 48 + 2 ^ 48) * (0 * 2 ^ 48 + 2 ^ 48) := by decide
      omega
    · decide
  obtain ⟨r, N4, e4, s4, hr⟩ := hloop
  refine ⟨r, N4, ?_, s4, hr⟩
  unfold fM_root
  exact ob_some e1 (ob_some e2 (ob_some e3 e4))
