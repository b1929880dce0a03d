def sg (f : Nat → Nat) : Nat → Nat
  | 0 => 0
  | n + 1 => sg f n + f n
theorem sg_s (f : Nat → Nat) (n : Nat) : sg f (n + 1) = sg f n + f n := rfl
theorem sg_congr {f g : Nat → Nat} {n : Nat} (h : ∀ i, i < n → f i = g i) : sg f n = sg g n := by
  induction n with
  | zero => rfl
  | succ n ih => rw [sg_s, sg_s, ih (fun i hi => h i (by omega)), h n (by omega)]
theorem sg_mono {f g : Nat → Nat} {n : Nat} (h : ∀ i, i < n → f i ≤ g i) : sg f n ≤ sg g n := by
  induction n with
  | zero => exact Nat.le_refl _
  | succ n ih =>
    have h1 := ih (fun i hi => h i (by omega))
    have h2 := h n (by omega)
    rw [sg_s, sg_s]; omega
theorem sg_upd {f g : Nat → Nat} {n k : Nat} (hk : k < n) (h : ∀ i, i < n → i ≠ k → g i = f i) : sg g n + f k = sg f n + g k := by
  induction n with
  | zero => omega
  | succ n ih =>
    rw [sg_s, sg_s]
    by_cases c : k = n
    · subst c
      rw [sg_congr (fun i hi => h i (by omega) (by omega))]; omega
    · have h1 := ih (by omega) (fun i hi hne => h i (by omega) hne)
      have h2 := h n (by omega) (by omega)
      omega
theorem sg_le {f : Nat → Nat} {n k : Nat} (hk : k < n) : f k ≤ sg f n := by
  induction n with
  | zero => omega
  | succ n ih =>
    rw [sg_s]
    by_cases c : k = n
    · subst c; omega
    · have := ih (by omega); omega
theorem sg_0 {f : Nat → Nat} {n : Nat} (h : ∀ i, i < n → f i = 0) : sg f n = 0 := by
  induction n with
  | zero => rfl
  | succ n ih => rw [sg_s, ih (fun i hi => h i (by omega)), h n (by omega)]
theorem sg_add (f g : Nat → Nat) (n : Nat) : sg (fun i => f i + g i) n = sg f n + sg g n := by
  induction n with
  | zero => rfl
  | succ n ih => rw [sg_s, sg_s, sg_s, ih]; omega
theorem sg_ub {f : Nat → Nat} {n B : Nat} (h : ∀ i, i < n → f i ≤ B) : sg f n ≤ n * B := by
  induction n with
  | zero => exact Nat.zero_le _
  | succ n ih =>
    have h1 := ih (fun i hi => h i (by omega))
    have h2 := h n (by omega)
    rw [sg_s, Nat.succ_mul]; omega
abbrev Sl : Type := Nat → Nat → Nat
def up2 (g : Sl) (i j v : Nat) : Sl := fun a b => if a = i ∧ b = j then v else g a b
theorem u3_e {S : St} {f i j v : Nat} : qz_u3 S f i j v f = up2 (S f) i j v := by
  funext a b; exact u3_g
theorem up2_s {g : Sl} {i j v : Nat} : up2 g i j v i j = v := if_pos ⟨rfl, rfl⟩
theorem up2_i {g : Sl} {i j v a b : Nat} (h : a ≠ i) : up2 g i j v a b = g a b := if_neg (fun z => h z.1)
theorem up2_j {g : Sl} {i j v a b : Nat} (h : b ≠ j) : up2 g i j v a b = g a b := if_neg (fun z => h z.2)
def hl (obuy oamt olim : Sl) (i : Nat) : Nat := if obuy i 0 = 0 then oamt i 0 else (oamt i 0 * olim i 0 + 999) / 1000
def ht (tA tB obuy : Sl) (i : Nat) : Nat := if obuy i 0 = 0 then tA 0 0 else tB 0 0
def cB (bal : Sl) (t : Nat) : Nat := sg (fun p => bal p t) 6
def cR (tok res : Sl) (t : Nat) : Nat := sg (fun q => (if tok q 0 = t then res q 0 else 0) + (if tok q 1 = t then res q 1 else 0)) 6
def cO (tA tB size obuy oamt olim : Sl) (t : Nat) : Nat := sg (fun i => if ht tA tB obuy i = t then hl obuy oamt olim i else 0) (size 0 0)
def ct (tok lpool lside : Sl) (l : Nat) : Nat := tok (lpool l 0) (lside l 0)
def dt (tok lpool lside : Sl) (l : Nat) : Nat := tok (lpool l 0) (1 - lside l 0)
def cL (tok lopen lpool lside lcov : Sl) (t : Nat) : Nat := sg (fun l => if lopen l 0 ≠ 0 ∧ ct tok lpool lside l = t then lcov l 0 else 0) 10
def debt (tok lpool lside lun vidx : Sl) (l : Nat) : Nat := cdiv (lun l 0 * vidx (dt tok lpool lside l) 0) 1000000000
def cD (tok lopen lpool lside lun vidx : Sl) (t : Nat) : Nat := sg (fun l => if lopen l 0 ≠ 0 ∧ dt tok lpool lside l = t then debt tok lpool lside lun vidx l else 0) 10
def O1 (bal mint house tok res tA tB size obuy oamt olim vhas lopen lpool lside lcov : Sl) : Prop := ∀ t, t < 4 → cB bal t + house t 0 + vhas t 0 + cR tok res t + cO tA tB size obuy oamt olim t + cL tok lopen lpool lside lcov t = mint t 0 ∧ mint t 0 ≤ 100000000000000
def O2 (np tok kind fee res sh : Sl) : Prop := np 0 0 ≤ 6 ∧ ∀ q, q < 6 → tok q 0 < 4 ∧ tok q 1 < 4 ∧ kind q 0 ≤ 1 ∧ fee q 0 ≤ 1000 ∧ (q < np 0 0 → tok q 0 ≠ tok q 1) ∧ (np 0 0 ≤ q → res q 0 = 0 ∧ res q 1 = 0 ∧ sh q 0 = 0)
def O3 (kind res sh shof : Sl) : Prop := ∀ q, q < 6 → sg (fun p => shof q p) 6 = sh q 0 ∧ (kind q 0 = 0 → sh q 0 * sh q 0 ≤ res q 0 * res q 1) ∧ (kind q 0 ≠ 0 → sh q 0 ≤ res q 0 + res q 1)
def O4 (tA tB size opl obuy oamt olim lsize : Sl) : Prop := tA 0 0 < 4 ∧ tB 0 0 < 4 ∧ tA 0 0 ≠ tB 0 0 ∧ size 0 0 ≤ 40 ∧ lsize 0 0 ≤ 40 ∧ ∀ i, i < size 0 0 → opl i 0 < 6 ∧ obuy i 0 ≤ 1 ∧ 1 ≤ oamt i 0 ∧ oamt i 0 ≤ 10000000000 ∧ 1 ≤ olim i 0 ∧ olim i 0 ≤ 1000000
def O5 (c : Nat) (np tally age mset mpool mtally mage clock : Sl) : Prop := clock 0 0 ≤ 1000 * c ∧ (∀ q, q < 6 → age q 0 ≤ clock 0 0) ∧ ∀ k, k < 8 → mset k 0 ≤ 1 ∧ mpool k 0 < 6 ∧ (mset k 0 ≠ 0 → mpool k 0 < np 0 0 ∧ mage k 0 ≤ age (mpool k 0) 0 ∧ mtally k 0 ≤ tally (mpool k 0) 0 ∧ tally (mpool k 0) 0 - mtally k 0 ≤ 100000000000000000 * (age (mpool k 0) 0 - mage k 0))
def O6 (tok vhas vparts vof vidx vrate lopen lpool lside lun : Sl) : Prop := ∀ t, t < 4 → 1000000000 ≤ vidx t 0 ∧ vidx t 0 ≤ 1000000000000 ∧ vrate t 0 ≤ 1000000 ∧ sg (fun p => vof t p) 6 = vparts t 0 ∧ vparts t 0 ≤ vhas t 0 + cD tok lopen lpool lside lun vidx t
def O7 (np lopen lpl lpool lside lun : Sl) : Prop := ∀ l, l < 10 → lopen l 0 ≤ 1 ∧ lpl l 0 < 6 ∧ lpool l 0 < 6 ∧ lside l 0 ≤ 1 ∧ lun l 0 ≤ 100000000000000 ∧ (lopen l 0 ≠ 0 → lpool l 0 < np 0 0)
def Ok (c : Nat) (S : St) : Prop := O1 (S 0) (S 1) (S 2) (S 4) (S 7) (S 16) (S 17) (S 18) (S 20) (S 21) (S 22) (S 26) (S 31) (S 33) (S 34) (S 35) ∧ O2 (S 3) (S 4) (S 5) (S 6) (S 7) (S 8) ∧ O3 (S 5) (S 7) (S 8) (S 9) ∧ O4 (S 16) (S 17) (S 18) (S 19) (S 20) (S 21) (S 22) (S 24) ∧ O5 c (S 3) (S 10) (S 11) (S 12) (S 13) (S 14) (S 15) (S 37) ∧ O6 (S 4) (S 26) (S 27) (S 28) (S 29) (S 30) (S 31) (S 33) (S 34) (S 36) ∧ O7 (S 3) (S 31) (S 32) (S 33) (S 34) (S 36)
theorem Ok.up {c : Nat} {S : St} (h : Ok c S) : Ok (c + 1) S := by
  obtain ⟨h1, h2, h3, h4, h5, h6, h7⟩ := h
  exact ⟨h1, h2, h3, h4, ⟨by have := h5.1; omega, h5.2⟩, h6, h7⟩
theorem cB_up {bal : Sl} {p t0 v : Nat} (hp : p < 6) (t : Nat) : cB (up2 bal p t0 v) t + (if t = t0 then bal p t0 else 0) = cB bal t + (if t = t0 then v else 0) := by
  unfold cB
  by_cases c : t = t0
  · subst c
    rw [if_pos rfl, if_pos rfl]
    have := sg_upd (f := fun q => bal q t) (g := fun q => up2 bal p t v q t) hp (fun i _ hne => up2_i hne)
    simp only [up2_s] at this
    exact this
  · rw [if_neg c, if_neg c, sg_congr (g := fun q => bal q t) (fun i _ => up2_j c)]
theorem cR_up {tok res : Sl} {q j v : Nat} (hq : q < 6) (hj : j < 2) (t : Nat) : cR tok (up2 res q j v) t + (if tok q j = t then res q j else 0) = cR tok res t + (if tok q j = t then v else 0) := by
  unfold cR
  have := sg_upd (f := fun q => (if tok q 0 = t then res q 0 else 0) + (if tok q 1 = t then res q 1 else 0)) (g := fun a => (if tok a 0 = t then up2 res q j v a 0 else 0) + (if tok a 1 = t then up2 res q j v a 1 else 0)) hq (fun i _ hne => by
    show (if tok i 0 = t then up2 res q j v i 0 else 0) + (if tok i 1 = t then up2 res q j v i 1 else 0) = _
    rw [up2_i hne, up2_i hne])
  revert this
  generalize sg (fun a => (if tok a 0 = t then up2 res q j v a 0 else 0) + (if tok a 1 = t then up2 res q j v a 1 else 0)) 6 = X
  intro this
  rcases (show j = 0 ∨ j = 1 by omega) with rfl | rfl
  · simp only [up2_s, up2_j (show (1 : Nat) ≠ 0 by decide)] at this
    omega
  · simp only [up2_s, up2_j (show (0 : Nat) ≠ 1 by decide)] at this
    omega
theorem up_g {h : Sl} {t0 v : Nat} (t : Nat) : up2 h t0 0 v t 0 = if t = t0 then v else h t 0 := by
  unfold up2
  by_cases c : t = t0
  · rw [if_pos ⟨c, rfl⟩, if_pos c]
  · rw [if_neg (fun z => c z.1), if_neg c]
theorem Ok.bal {c : Nat} {S : St} (h : Ok c S) {p t : Nat} (hp : p < 6) (ht : t < 4) : S 0 p t ≤ 100000000000000 := by
  have h1 := h.1 t ht
  have h2 : S 0 p t ≤ cB (S 0) t := sg_le (f := fun p => S 0 p t) hp
  omega
theorem Ok.res {c : Nat} {S : St} (h : Ok c S) {q j : Nat} (hq : q < 6) (hj : j < 2) : S 7 q j ≤ 100000000000000 := by
  have ht : S 4 q j < 4 := by
    have := h.2.1.2 q hq
    rcases (show j = 0 ∨ j = 1 by omega) with rfl | rfl
    · exact this.1
    · exact this.2.1
  have h1 := h.1 (S 4 q j) ht
  have h2 := sg_le (f := fun a => (if S 4 a 0 = S 4 q j then S 7 a 0 else 0) + (if S 4 a 1 = S 4 q j then S 7 a 1 else 0)) hq
  have h3 : S 7 q j ≤ cR (S 4) (S 7) (S 4 q j) := by
    refine Nat.le_trans ?_ h2
    rcases (show j = 0 ∨ j = 1 by omega) with rfl | rfl
    · simp only [if_true]; omega
    · simp only [if_true]; omega
  omega
theorem Ok.mint {c : Nat} {S : St} (h : Ok c S) {t : Nat} (ht : t < 4) : S 1 t 0 ≤ 100000000000000 := (h.1 t ht).2
theorem Ok.house {c : Nat} {S : St} (h : Ok c S) {t : Nat} (ht : t < 4) : S 2 t 0 ≤ 100000000000000 := by
  have := h.1 t ht
  omega
theorem Ok.vhas {c : Nat} {S : St} (h : Ok c S) {t : Nat} (ht : t < 4) : S 26 t 0 ≤ 100000000000000 := by
  have := h.1 t ht
  omega
theorem Ok.np {c : Nat} {S : St} (h : Ok c S) : S 3 0 0 ≤ 6 := h.2.1.1
theorem Ok.tok {c : Nat} {S : St} (h : Ok c S) {q j : Nat} (hq : q < 6) (hj : j < 2) : S 4 q j < 4 := by
  have := h.2.1.2 q hq
  rcases (show j = 0 ∨ j = 1 by omega) with rfl | rfl
  · exact this.1
  · exact this.2.1
theorem Ok.kind {c : Nat} {S : St} (h : Ok c S) {q : Nat} (hq : q < 6) : S 5 q 0 ≤ 1 := (h.2.1.2 q hq).2.2.1
theorem Ok.fee {c : Nat} {S : St} (h : Ok c S) {q : Nat} (hq : q < 6) : S 6 q 0 ≤ 1000 := (h.2.1.2 q hq).2.2.2.1
theorem Ok.sh {c : Nat} {S : St} (h : Ok c S) {q : Nat} (hq : q < 6) : S 8 q 0 ≤ 200000000000000 := by
  have h3 := h.2.2.1 q hq
  have a := h.res hq (j := 0) (by decide)
  have b := h.res hq (j := 1) (by decide)
  by_cases k : S 5 q 0 = 0
  · have h4 := h3.2.1 k
    have h5 : S 7 q 0 * S 7 q 1 ≤ 100000000000000 * 100000000000000 := Nat.mul_le_mul a b
    by_cases d : S 8 q 0 ≤ 200000000000000
    · exact d
    · have := Nat.mul_lt_mul'' (show 200000000000000 < S 8 q 0 by omega) (show 200000000000000 < S 8 q 0 by omega)
      omega
  · have h4 := h3.2.2 k
    omega
theorem Ok.shof {c : Nat} {S : St} (h : Ok c S) {q p : Nat} (hq : q < 6) (hp : p < 6) : S 9 q p ≤ S 8 q 0 := by
  rw [← (h.2.2.1 q hq).1]
  exact sg_le (f := fun p => S 9 q p) hp
theorem Ok.vof {c : Nat} {S : St} (h : Ok c S) {t p : Nat} (ht : t < 4) (hp : p < 6) : S 28 t p ≤ S 27 t 0 := by
  rw [← (h.2.2.2.2.2.1 t ht).2.2.2.1]
  exact sg_le (f := fun p => S 28 t p) hp
theorem Ok.cov {c : Nat} {S : St} (h : Ok c S) {l : Nat} (hl : l < 10) (ho : S 31 l 0 ≠ 0) : S 35 l 0 ≤ 100000000000000 := by
  have h7 := h.2.2.2.2.2.2 l hl
  have ht : ct (S 4) (S 33) (S 34) l < 4 := h.tok h7.2.2.1 (by omega)
  have h1 := h.1 _ ht
  have h2 := sg_le (f := fun a => if S 31 a 0 ≠ 0 ∧ ct (S 4) (S 33) (S 34) a = ct (S 4) (S 33) (S 34) l then S 35 a 0 else 0) hl
  have h3 : S 35 l 0 ≤ cL (S 4) (S 31) (S 33) (S 34) (S 35) (ct (S 4) (S 33) (S 34) l) := by
    refine Nat.le_trans ?_ h2
    show _ ≤ if S 31 l 0 ≠ 0 ∧ ct (S 4) (S 33) (S 34) l = ct (S 4) (S 33) (S 34) l then S 35 l 0 else 0
    rw [if_pos ⟨ho, rfl⟩]; exact Nat.le_refl _
  omega
theorem A_to {a b d : Nat} (ha : a < 9223372036854775808) (hb : b < 9223372036854775808) (hd0 : 0 < d) (hd : d < 9223372036854775808) (hq : a * b / d < 9223372036854775808) (N : qz_N) : fA_timesOver (lN a) (lN b) (lN d) N = some (lN (a * b / d), N) := by
  rw [A_timesOver ha hb hd0 hd, Nat.min_eq_left (by omega)]
theorem M_pt {a b d : Nat} (ha : a < 9223372036854775808) (hb : b < 9223372036854775808) (hd0 : 0 < d) (hd : d < 4611686018427387904) (hq : a * b / d < 9223372036854775808) (N : qz_N) : ∃ N', fM_part 0 (lN a) (lN b) (lN d) N = some (lN (a * b / d), N') ∧ Sc N N' := by
  obtain ⟨N', e, h, -⟩ := M_part (by omega : a < 18446744073709551616) (by omega : b < 18446744073709551616) hd0 hd N
  refine ⟨N', ?_, h⟩
  rw [e]; unfold qcap; rw [if_pos hq]
theorem E_resAt {N : qz_N} {S : St} (hC : RC N S) {i j : Nat} (hi : i < 6) (hj : j < 2) : fP_reserveAt i (nI j) N = some (lN (S 7 i j), N) := by
  unfold fP_reserveAt
  rcases (show j = 0 ∨ j = 1 by omega) with rfl | rfl
  · rw [if_pos (by decide), rC7a hC i hi]
  · rw [if_neg (by decide), rC7b hC i hi]
theorem E_tokAt {N : qz_N} {S : St} (hC : RC N S) {i j : Nat} (hi : i < 6) (hj : j < 2) : fP_tokenAt i (nI j) N = some (nI (S 4 i j), N) := by
  unfold fP_tokenAt
  rcases (show j = 0 ∨ j = 1 by omega) with rfl | rfl
  · rw [if_pos (by decide), rC4a hC i hi]
  · rw [if_neg (by decide), rC4b hC i hi]
theorem E_addRes {N : qz_N} {S : St} (hC : RC N S) {i j v : Nat} {d : Int64} (hi : i < 6) (hj : j < 2) (hv : lN (S 7 i j) + d = lN v) : GoC N (fP_addReserve i (nI j) d N) () (qz_u3 S 7 i j v) := by
  unfold fP_addReserve
  rcases (show j = 0 ∨ j = 1 by omega) with rfl | rfl
  · refine GoC.pos (by decide) ?_
    rw [rC7a hC i hi, hv]
    exact GoC.wr (wC7 hC i 0 v hi hj) (KM.sl (by decide)) (fun N1 h k => GoC.ret h k)
  · refine GoC.neg (by decide) ?_
    rw [rC7b hC i hi, hv]
    exact GoC.wr (wC7 hC i 1 v hi hj) (KM.sl (by decide)) (fun N1 h k => GoC.ret h k)
theorem E_bringIn {N : qz_N} {S : St} (hC : RC N S) {p i j a : Nat} (hp : p < 6) (hi : i < 6) (hj : j < 2) (ht : S 4 i j < 4) (ha : a ≤ S 0 p (S 4 i j)) : GoC N (fE_bringIn 0 (nI p) i (nI j) (lN a) N) () (qz_u3 (qz_u3 S 0 p (S 4 i j) (S 0 p (S 4 i j) - a)) 7 i j (S 7 i j + a)) := by
  unfold fE_bringIn
  refine GoC.eq (E_tokAt hC hi hj) ?_
  refine GoC.call (E_take hC hp ht ha) KM.rf (fun N1 h1 k1 => ?_)
  exact GoC.call (E_addRes h1 hi hj (v := S 7 i j + a) (by rw [u3_f (by decide), lN_add])) k1 (fun N2 h2 k2 => GoC.ret h2 k2)
theorem E_takeOut {N : qz_N} {S : St} (hC : RC N S) {p i j a : Nat} (hp : p < 6) (hi : i < 6) (hj : j < 2) (ht : S 4 i j < 4) (ha : a ≤ S 7 i j) : GoC N (fE_takeOut 0 (nI p) i (nI j) (lN a) N) () (qz_u3 (qz_u3 S 7 i j (S 7 i j - a)) 0 p (S 4 i j) (S 0 p (S 4 i j) + a)) := by
  unfold fE_takeOut
  refine GoC.call (E_addRes hC hi hj (lN_addneg ha)) KM.rf (fun N1 h1 k1 => ?_)
  refine GoC.eq (E_tokAt h1 hi hj) ?_
  have e4 : qz_u3 S 7 i j (S 7 i j - a) 4 = S 4 := u3_f (by decide)
  have e0 : qz_u3 S 7 i j (S 7 i j - a) 0 = S 0 := u3_f (by decide)
  have h3 := E_give h1 (p := p) (t := S 4 i j) (a := a) hp ht
  rw [e0] at h3
  rw [e4]
  exact GoC.call h3 k1 (fun N2 h2 k2 => GoC.ret h2 k2)
theorem E_addSh {N : qz_N} {S : St} (hC : RC N S) {p i v w : Nat} {d : Int64} (hp : p < 6) (hi : i < 6) (hv : lN (S 9 i p) + d = lN v) (hw : lN (S 8 i 0) + d = lN w) : GoC N (fP_addShares i (nI p) d N) () (qz_u3 (qz_u3 S 9 i p v) 8 i 0 w) := by
  unfold fP_addShares
  rw [if_neg (nI_ok (n := 6) hp (by decide)), if_neg (nI_ok (n := 6) hp (by decide)), nI_tc (by omega), rC9 hC i p hi hp, hv]
  refine GoC.wr (wC9 hC i p v hi hp) (KM.sl (by decide)) (fun N1 h k => ?_)
  rw [rC8 h i hi, u3_f (by decide), hw]
  exact GoC.wr (wC8 h i w hi) (k.tr (KM.sl (by decide))) (fun N1 h k => GoC.ret h k)
def outV (S : St) (i j a : Nat) : Nat := if S 5 i 0 = 0 then S 7 i (1 - j) * (a * (10000 - S 6 i 0)) / (10000 * S 7 i j + a * (10000 - S 6 i 0)) else if a * (10000 - S 6 i 0) / 10000 ≤ S 7 i (1 - j) then a * (10000 - S 6 i 0) / 10000 else 0
theorem out_b {a f : Nat} (ha : a ≤ 100000000000000) : a * (10000 - f) ≤ 1000000000000000000 := by
  have := Nat.mul_le_mul ha (show 10000 - f ≤ 10000 by omega)
  omega
theorem out_p {a f : Nat} (ha : 1 ≤ a) (hf : f ≤ 1000) : 9000 ≤ a * (10000 - f) := by
  have := Nat.mul_le_mul ha (show 9000 ≤ 10000 - f by omega)
  omega
theorem div_le_of {x y d : Nat} (h : y ≤ d) (hd : 0 < d) : x * y / d ≤ x := by
  rw [Nat.div_le_iff_le_mul_add_pred hd]
  have := Nat.mul_le_mul_left x h
  have e : x * d = d * x := Nat.mul_comm _ _
  omega
theorem E_out {N : qz_N} {S : St} (hC : RC N S) {c i j a : Nat} (ok : Ok c S) (hi : i < 6) (hj : j < 2) (h1 : 1 ≤ a) (ha : a ≤ 100000000000000) : fP_outputOf i (nI j) (lN a) N = some (lN (outV S i j a), N) := by
  have b1 := out_b (f := S 6 i 0) ha
  have b2 := out_p h1 (ok.fee hi)
  have b3 := ok.res hi hj
  have b4 := ok.res hi (j := 1 - j) (by omega)
  have b5 := ok.fee hi
  have b6 := ok.kind hi
  unfold fP_outputOf
  refine ob_some (E_resAt hC hi hj) ?_
  refine ob_some (by rw [ix_1s (by omega)]; exact E_resAt hC hi (by omega)) ?_
  show qz_let _ _ = _
  rw [qz_let_eq]
  show (if qz_gi N 2 i 3 = 1 then _ else _) = _
  rw [rC5 hC i hi, rC6 hC i hi, l_x (by omega), l_xk, lN_sub (by omega), lN_mul, lN_mul, lN_add]
  unfold outV
  generalize a * (10000 - S 6 i 0) = A at *
  by_cases k : S 5 i 0 = 0
  · rw [if_pos k, if_neg (by rw [ix_1 (by omega)]; omega)]
    exact ob_some (A_to (by omega) (by omega) (by omega) (by omega) (Nat.lt_of_le_of_lt (div_le_of (by omega) (by omega)) (by omega)) N) rfl
  · rw [if_neg k, if_pos (by rw [ix_1 (by omega)]; omega), qz_let_eq, l_div (by omega) (by decide) (by decide)]
    simp (disch := omega) only [l_le]
    by_cases h : A / 10000 ≤ S 7 i (1 - j)
    · rw [if_pos h, if_pos h]
    · rw [if_neg h, if_neg h]; rfl
theorem ar_begin {N : qz_N} (v : Nat) (hv : v < 18446744073709551616) : ∃ N', fM_begin 0 (lN v) N = some ((), N') ∧ Sc N N' ∧ ar N' 52 6 (dg v) ∧ (∀ c i k, c ≠ 52 → qz_gl N' c i k = qz_gl N c i k) := by
  have := M_begin (lN v) N
  rw [un_lN hv] at this
  exact this
theorem ar_times {N : qz_N} {v : Nat} (m : Nat) (hm : m < 18446744073709551616) (hv : ar N 52 6 (dg v)) (hv6 : v < BB ^ 6) : ∃ N', fM_times 0 (lN m) N = some ((), N') ∧ Sc N N' ∧ ar N' 52 6 (dg (v * m)) ∧ (∀ c i k, c ≠ 52 → c ≠ 54 → c ≠ 55 → qz_gl N' c i k = qz_gl N c i k) := by
  have := M_times (lN m) hv hv6
  rw [un_lN hm] at this
  exact this
theorem M_out {N : qz_N} {S : St} (hM : RM N S) {c i j a : Nat} (ok : Ok c S) (hi : i < 6) (hj : j < 2) (h1 : 1 ≤ a) (ha : a ≤ 100000000000000) : ∃ N', fM_outOf 0 (nI i) (nI j) (lN a) N = some (lN (outV S i j a), N') ∧ Sc N N' := by
  have b1 := out_b (f := S 6 i 0) ha
  have b2 := out_p h1 (ok.fee hi)
  have b3 := ok.res hi hj
  have b4 := ok.res hi (j := 1 - j) (by omega)
  have b5 := ok.fee hi
  have b6 := ok.kind hi
  unfold fM_outOf
  rw [ix_2m, nI_add, nI_p1, ix_s (by omega), if_neg (nI_ok (n := 12) (by omega) (by decide)), qz_let_eq, if_neg (nI_ok (n := 12) (by omega) (by decide)), qz_let_eq, if_neg (nI_ok (n := 6) (by omega) (by decide)), qz_let_eq, if_neg (nI_ok (n := 6) (by omega) (by decide)), nI_tc (by omega), nI_tc (by omega), nI_tc (by omega), rM5 hM i hi, rM6 hM i hi, rM7 hM i j hi hj, rM7c hM i j hi hj, l_x (by omega), l_xk, lN_sub (by omega), lN_mul, lN_mul, lN_add]
  unfold outV
  by_cases k : S 5 i 0 = 0
  · rw [if_pos k, if_pos (by rw [ix_z (by omega)]; exact k)]
    obtain ⟨N1, e1, s1, r1, -⟩ := ar_begin (N := N) (S 7 i (1 - j)) (by omega)
    have c1 : S 7 i (1 - j) < BB ^ 6 := by rw [BB6]; omega
    obtain ⟨N2, e2, s2, r2, -⟩ := ar_times a (by omega) r1 c1
    have c2 : S 7 i (1 - j) * a ≤ 100000000000000 * 100000000000000 := Nat.mul_le_mul b4 ha
    obtain ⟨N3, e3, s3, r3, -⟩ := ar_times (10000 - S 6 i 0) (by omega) r2 (by rw [BB6]; omega)
    rw [Nat.mul_assoc] at r3
    have c3 : S 7 i (1 - j) * (a * (10000 - S 6 i 0)) ≤ 100000000000000 * 1000000000000000000 := Nat.mul_le_mul b4 b1
    obtain ⟨N4, e4, s4, -⟩ := M_over (D := 10000 * S 7 i j + a * (10000 - S 6 i 0)) r3 (by rw [pw180]; exact Nat.div_eq_of_lt (by omega)) (by omega) (by omega)
    refine ⟨N4, ?_, ((s1.tr s2).tr s3).tr s4⟩
    refine ob_some e1 (ob_some e2 (ob_some e3 ?_))
    refine ob_some e4 ?_
    unfold qcap
    rw [if_pos (Nat.lt_of_le_of_lt (div_le_of (by omega) (by omega)) (by omega))]
  · refine ⟨N, ?_, Sc.rf⟩
    generalize a * (10000 - S 6 i 0) = A at *
    rw [if_neg k, if_neg (by rw [ix_z (by omega)]; exact k), qz_let_eq, l_div (by omega) (by decide) (by decide)]
    simp (disch := omega) only [l_le]
    by_cases h : A / 10000 ≤ S 7 i (1 - j)
    · rw [if_pos h, if_pos h]
    · rw [if_neg h, if_neg h]; rfl
theorem E_oute {N : qz_N} {S : St} (hC : RC N S) {c i j a : Nat} (ok : Ok c S) (hi : i < 6) (hj : j < 2) (h1 : 1 ≤ a) (ha : a ≤ 100000000000000) : outV S i j a ≤ 100000000000000 := by
  have b1 := out_b (f := S 6 i 0) ha
  have b2 := out_p h1 (ok.fee hi)
  have b4 := ok.res hi (j := 1 - j) (by omega)
  unfold outV
  split
  · exact Nat.le_trans (div_le_of (by omega) (by omega)) b4
  · split
    · omega
    · omega
theorem out_le {S : St} {i j a : Nat} (h1 : 1 ≤ a) (hf : S 6 i 0 ≤ 1000) : outV S i j a ≤ S 7 i (1 - j) := by
  have b2 := out_p h1 hf
  unfold outV
  split
  · exact div_le_of (by omega) (by omega)
  · split
    · assumption
    · omega
theorem op_quote {N : qz_N} {S : St} {c : Nat} (ok : Ok c S) (hC : RC N S) (hM : RM N S) (x s : Int32) (y : Int64) : Alike N (fE_quote 0 x s y) (fM_quote 0 x s y) (Ok c) := by
  have h6 := ok.np
  rcases ixc x (n := S 3 0 0) (by omega) with hx | ⟨i, hx, rfl⟩
  · exact Alike.mk' (r := -2) hM (GoC.of (by simp (disch := omega) only [fE_quote, ↓bd (E_po0 hC hx), ix_2m, ix_6m, ix_4m, ix_m4, ix_1s, ix_s, ix_s2, ix_s9, ix_s7, ix_s5, ix_s1, nI_add, nI_p1, ix_n, ix_z, ix_1, ix_eq, ix_le, ix_lt, ix_le0, nI_tc, n_leT, n_leF, n_ltT, n_ltF, n_eqT, n_eqF, or_self, or_false, false_or, ↓reduceIte, ↓qz_letL, ↓qz_letI, qz_oc_s, qz_oc_n, Option.bind_some, ne10, not_false_eq_true, l_x]) hC) (fun N1 hM => GoM.of (by simp (disch := omega) only [fM_quote, ↓bd (M_po0 hM hx), ix_2m, ix_6m, ix_4m, ix_m4, ix_1s, ix_s, ix_s2, ix_s9, ix_s7, ix_s5, ix_s1, nI_add, nI_p1, ix_n, ix_z, ix_1, ix_eq, ix_le, ix_lt, ix_le0, nI_tc, n_leT, n_leF, n_ltT, n_ltF, n_eqT, n_eqF, or_self, or_false, false_or, ↓reduceIte, ↓qz_letL, ↓qz_letI, qz_oc_s, qz_oc_n, Option.bind_some, ne10, not_false_eq_true, l_x]) hM) ok
  rcases sdc s with hs | ⟨j, hj, rfl⟩
  · exact Alike.mk' (r := -2) hM (GoC.of (by simp (disch := omega) only [fE_quote, ↓bd (E_po1 hC h6 hx), ↓bd (E_sd0 hs _), ix_2m, ix_6m, ix_4m, ix_m4, ix_1s, ix_s, ix_s2, ix_s9, ix_s7, ix_s5, ix_s1, nI_add, nI_p1, ix_n, ix_z, ix_1, ix_eq, ix_le, ix_lt, ix_le0, nI_tc, n_leT, n_leF, n_ltT, n_ltF, n_eqT, n_eqF, or_self, or_false, false_or, ↓reduceIte, ↓qz_letL, ↓qz_letI, qz_oc_s, qz_oc_n, Option.bind_some, ne10, not_false_eq_true, l_x]) hC) (fun N1 hM => GoM.of (by simp (disch := omega) only [fM_quote, ↓bd (M_po1 hM h6 hx), ↓bd (M_sd0 hs _), ix_2m, ix_6m, ix_4m, ix_m4, ix_1s, ix_s, ix_s2, ix_s9, ix_s7, ix_s5, ix_s1, nI_add, nI_p1, ix_n, ix_z, ix_1, ix_eq, ix_le, ix_lt, ix_le0, nI_tc, n_leT, n_leF, n_ltT, n_ltF, n_eqT, n_eqF, or_self, or_false, false_or, ↓reduceIte, ↓qz_letL, ↓qz_letI, qz_oc_s, qz_oc_n, Option.bind_some, ne10, not_false_eq_true, l_x]) hM) ok
  rcases l_gi (x := y) with hy | ⟨a, h1, h2, rfl⟩
  · exact Alike.mk' (r := -2) hM (GoC.of (by simp (disch := omega) only [fE_quote, ↓bd (E_po1 hC h6 hx), ↓bd (E_sd1 hj _), ix_2m, ix_6m, ix_4m, ix_m4, ix_1s, ix_s, ix_s2, ix_s9, ix_s7, ix_s5, ix_s1, nI_add, nI_p1, ix_n, ix_z, ix_1, ix_eq, ix_le, ix_lt, ix_le0, nI_tc, n_leT, n_leF, n_ltT, n_ltF, n_eqT, n_eqF, or_self, or_false, false_or, ↓reduceIte, ↓qz_letL, ↓qz_letI, qz_oc_s, qz_oc_n, Option.bind_some, ne10, not_false_eq_true, l_x, l_1, hy]) hC) (fun N1 hM => GoM.of (by simp (disch := omega) only [fM_quote, ↓bd (M_po1 hM h6 hx), ↓bd (M_sd1 hj _), ix_2m, ix_6m, ix_4m, ix_m4, ix_1s, ix_s, ix_s2, ix_s9, ix_s7, ix_s5, ix_s1, nI_add, nI_p1, ix_n, ix_z, ix_1, ix_eq, ix_le, ix_lt, ix_le0, nI_tc, n_leT, n_leF, n_ltT, n_ltF, n_eqT, n_eqF, or_self, or_false, false_or, ↓reduceIte, ↓qz_letL, ↓qz_letI, qz_oc_s, qz_oc_n, Option.bind_some, ne10, not_false_eq_true, l_x, l_1, hy]) hM) ok
  by_cases ha : a ≤ 100000000000000
  · have b := E_oute hC ok (by omega : i < 6) hj h1 ha
    by_cases z : outV S i j a = 0
    · refine Alike.mk' (r := -3) hM (GoC.of (by simp (disch := omega) only [fE_quote, ↓bd (E_po1 hC h6 hx), ↓bd (E_sd1 hj _), ix_2m, ix_6m, ix_4m, ix_m4, ix_1s, ix_s, ix_s2, ix_s9, ix_s7, ix_s5, ix_s1, nI_add, nI_p1, ix_n, ix_z, ix_1, ix_eq, ix_le, ix_lt, ix_le0, nI_tc, n_leT, n_leF, n_ltT, n_ltF, n_eqT, n_eqF, or_self, or_false, false_or, ↓reduceIte, ↓qz_letL, ↓qz_letI, qz_oc_s, qz_oc_n, Option.bind_some, ne10, not_false_eq_true, l_x, l_0, l_1, l_60, l_80, l_100, l_105, l_k, l_xk, l_m, l_g, l_xg, l_t, l_ct, l_ex, l_mx, l_lt, l_le, l_eq, l_div, l_ite, lN_add, lN_sub, lN_mul, lN_addneg, ↓bd (E_out hC ok _ hj h1 ha)]) hC) (fun N1 hM => ?_) ok
      simp (disch := omega) only [fM_quote, ↓bd (M_po1 hM h6 hx), ↓bd (M_sd1 hj _), ix_2m, ix_6m, ix_4m, ix_m4, ix_1s, ix_s, ix_s2, ix_s9, ix_s7, ix_s5, ix_s1, nI_add, nI_p1, ix_n, ix_z, ix_1, ix_eq, ix_le, ix_lt, ix_le0, nI_tc, n_leT, n_leF, n_ltT, n_ltF, n_eqT, n_eqF, or_self, or_false, false_or, ↓reduceIte, ↓qz_letL, ↓qz_letI, qz_oc_s, qz_oc_n, Option.bind_some, ne10, not_false_eq_true, l_x, l_0, l_1, l_60, l_80, l_100, l_105, l_k, l_xk, l_m, l_g, l_xg, l_t, l_ct, l_ex, l_mx, l_lt, l_le, l_eq, l_div, l_ite, lN_add, lN_sub, lN_mul, lN_addneg]
      refine GoM.scr (M_out hM ok (by omega) hj h1 ha) hM KC.rf (fun N1 h1 k1 => ?_)
      simp (disch := omega) only [ix_2m, ix_6m, ix_4m, ix_m4, ix_1s, ix_s, ix_s2, ix_s9, ix_s7, ix_s5, ix_s1, nI_add, nI_p1, ix_n, ix_z, ix_1, ix_eq, ix_le, ix_lt, ix_le0, nI_tc, n_leT, n_leF, n_ltT, n_ltF, n_eqT, n_eqF, or_self, or_false, false_or, ↓reduceIte, ↓qz_letL, ↓qz_letI, qz_oc_s, qz_oc_n, Option.bind_some, ne10, not_false_eq_true, l_x, l_0, l_1, l_60, l_80, l_100, l_105, l_k, l_xk, l_m, l_g, l_xg, l_t, l_ct, l_ex, l_mx, l_lt, l_le, l_eq, l_div, l_ite, lN_add, lN_sub, lN_mul, lN_addneg]
      exact GoM.ret h1 k1
    · refine Alike.mk' (r := lN (outV S i j a)) hM (GoC.of (by simp (disch := omega) only [fE_quote, ↓bd (E_po1 hC h6 hx), ↓bd (E_sd1 hj _), ix_2m, ix_6m, ix_4m, ix_m4, ix_1s, ix_s, ix_s2, ix_s9, ix_s7, ix_s5, ix_s1, nI_add, nI_p1, ix_n, ix_z, ix_1, ix_eq, ix_le, ix_lt, ix_le0, nI_tc, n_leT, n_leF, n_ltT, n_ltF, n_eqT, n_eqF, or_self, or_false, false_or, ↓reduceIte, ↓qz_letL, ↓qz_letI, qz_oc_s, qz_oc_n, Option.bind_some, ne10, not_false_eq_true, l_x, l_0, l_1, l_60, l_80, l_100, l_105, l_k, l_xk, l_m, l_g, l_xg, l_t, l_ct, l_ex, l_mx, l_lt, l_le, l_eq, l_div, l_ite, lN_add, lN_sub, lN_mul, lN_addneg, ↓bd (E_out hC ok _ hj h1 ha)]) hC) (fun N1 hM => ?_) ok
      simp (disch := omega) only [fM_quote, ↓bd (M_po1 hM h6 hx), ↓bd (M_sd1 hj _), ix_2m, ix_6m, ix_4m, ix_m4, ix_1s, ix_s, ix_s2, ix_s9, ix_s7, ix_s5, ix_s1, nI_add, nI_p1, ix_n, ix_z, ix_1, ix_eq, ix_le, ix_lt, ix_le0, nI_tc, n_leT, n_leF, n_ltT, n_ltF, n_eqT, n_eqF, or_self, or_false, false_or, ↓reduceIte, ↓qz_letL, ↓qz_letI, qz_oc_s, qz_oc_n, Option.bind_some, ne10, not_false_eq_true, l_x, l_0, l_1, l_60, l_80, l_100, l_105, l_k, l_xk, l_m, l_g, l_xg, l_t, l_ct, l_ex, l_mx, l_lt, l_le, l_eq, l_div, l_ite, lN_add, lN_sub, lN_mul, lN_addneg]
      refine GoM.scr (M_out hM ok (by omega) hj h1 ha) hM KC.rf (fun N1 h1 k1 => ?_)
      simp (disch := omega) only [ix_2m, ix_6m, ix_4m, ix_m4, ix_1s, ix_s, ix_s2, ix_s9, ix_s7, ix_s5, ix_s1, nI_add, nI_p1, ix_n, ix_z, ix_1, ix_eq, ix_le, ix_lt, ix_le0, nI_tc, n_leT, n_leF, n_ltT, n_ltF, n_eqT, n_eqF, or_self, or_false, false_or, ↓reduceIte, ↓qz_letL, ↓qz_letI, qz_oc_s, qz_oc_n, Option.bind_some, ne10, not_false_eq_true, l_x, l_0, l_1, l_60, l_80, l_100, l_105, l_k, l_xk, l_m, l_g, l_xg, l_t, l_ct, l_ex, l_mx, l_lt, l_le, l_eq, l_div, l_ite, lN_add, lN_sub, lN_mul, lN_addneg]
      exact GoM.ret h1 k1
  · exact Alike.mk' (r := -2) hM (GoC.of (by simp (disch := omega) only [fE_quote, ↓bd (E_po1 hC h6 hx), ↓bd (E_sd1 hj _), ix_2m, ix_6m, ix_4m, ix_m4, ix_1s, ix_s, ix_s2, ix_s9, ix_s7, ix_s5, ix_s1, nI_add, nI_p1, ix_n, ix_z, ix_1, ix_eq, ix_le, ix_lt, ix_le0, nI_tc, n_leT, n_leF, n_ltT, n_ltF, n_eqT, n_eqF, or_self, or_false, false_or, ↓reduceIte, ↓qz_letL, ↓qz_letI, qz_oc_s, qz_oc_n, Option.bind_some, ne10, not_false_eq_true, l_x, l_0, l_1, l_60, l_80, l_100, l_105, l_k, l_xk, l_m, l_g, l_xg, l_t, l_ct, l_ex, l_mx, l_lt, l_le, l_eq, l_div, l_ite, lN_add, lN_sub, lN_mul, lN_addneg]) hC) (fun N1 hM => GoM.of (by simp (disch := omega) only [fM_quote, ↓bd (M_po1 hM h6 hx), ↓bd (M_sd1 hj _), ix_2m, ix_6m, ix_4m, ix_m4, ix_1s, ix_s, ix_s2, ix_s9, ix_s7, ix_s5, ix_s1, nI_add, nI_p1, ix_n, ix_z, ix_1, ix_eq, ix_le, ix_lt, ix_le0, nI_tc, n_leT, n_leF, n_ltT, n_ltF, n_eqT, n_eqF, or_self, or_false, false_or, ↓reduceIte, ↓qz_letL, ↓qz_letI, qz_oc_s, qz_oc_n, Option.bind_some, ne10, not_false_eq_true, l_x, l_0, l_1, l_60, l_80, l_100, l_105, l_k, l_xk, l_m, l_g, l_xg, l_t, l_ct, l_ex, l_mx, l_lt, l_le, l_eq, l_div, l_ite, lN_add, lN_sub, lN_mul, lN_addneg]) hM) ok
